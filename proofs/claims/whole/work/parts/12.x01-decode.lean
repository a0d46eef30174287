theorem d_Mo_input_30 : decode prog_7_method_24_code 30 = .ok (.goto 55, 3) := by decide +kernel
theorem d_Mo_input_33 : decode prog_7_method_24_code 33 = .ok (.iload_n 2, 1) := by decide +kernel
theorem d_Mo_input_34 : decode prog_7_method_24_code 34 = .ok (.iconst 1, 1) := by decide +kernel
theorem d_Mo_input_35 : decode prog_7_method_24_code 35 = .ok (.if_icmp .ne 12, 3) := by decide +kernel
theorem d_Mo_input_38 : decode prog_7_method_24_code 38 = .ok (.aload_n 0, 1) := by decide +kernel
theorem d_Mo_input_39 : decode prog_7_method_24_code 39 = .ok (.getfield 16, 3) := by decide +kernel
theorem d_Mo_input_42 : decode prog_7_method_24_code 42 = .ok (.iload_n 1, 1) := by decide +kernel
theorem d_Mo_input_43 : decode prog_7_method_24_code 43 = .ok (.iaload, 1) := by decide +kernel
theorem d_Mo_input_44 : decode prog_7_method_24_code 44 = .ok (.goto 41, 3) := by decide +kernel
theorem d_Mo_input_47 : decode prog_7_method_24_code 47 = .ok (.iload_n 2, 1) := by decide +kernel
theorem d_Mo_input_48 : decode prog_7_method_24_code 48 = .ok (.iconst 2, 1) := by decide +kernel
theorem d_Mo_input_49 : decode prog_7_method_24_code 49 = .ok (.if_icmp .ne 12, 3) := by decide +kernel
theorem d_Mo_input_52 : decode prog_7_method_24_code 52 = .ok (.aload_n 0, 1) := by decide +kernel
theorem d_Mo_input_53 : decode prog_7_method_24_code 53 = .ok (.getfield 19, 3) := by decide +kernel
theorem d_Mo_input_56 : decode prog_7_method_24_code 56 = .ok (.iload_n 1, 1) := by decide +kernel
theorem d_Mo_input_57 : decode prog_7_method_24_code 57 = .ok (.iaload, 1) := by decide +kernel
theorem d_Mo_input_58 : decode prog_7_method_24_code 58 = .ok (.goto 27, 3) := by decide +kernel
theorem d_Mo_input_61 : decode prog_7_method_24_code 61 = .ok (.iload_n 2, 1) := by decide +kernel
theorem d_Mo_input_62 : decode prog_7_method_24_code 62 = .ok (.iconst 3, 1) := by decide +kernel
theorem d_Mo_input_63 : decode prog_7_method_24_code 63 = .ok (.if_icmp .ne 20, 3) := by decide +kernel
theorem d_Mo_input_66 : decode prog_7_method_24_code 66 = .ok (.aload_n 0, 1) := by decide +kernel
theorem d_Mo_input_67 : decode prog_7_method_24_code 67 = .ok (.getfield 22, 3) := by decide +kernel
theorem d_Mo_input_70 : decode prog_7_method_24_code 70 = .ok (.iload_n 1, 1) := by decide +kernel
theorem d_Mo_input_71 : decode prog_7_method_24_code 71 = .ok (.baload, 1) := by decide +kernel
theorem d_Mo_input_72 : decode prog_7_method_24_code 72 = .ok (.ifCond .eq 7, 3) := by decide +kernel
theorem d_Mo_input_75 : decode prog_7_method_24_code 75 = .ok (.iconst 1, 1) := by decide +kernel
theorem d_Mo_input_76 : decode prog_7_method_24_code 76 = .ok (.goto 9, 3) := by decide +kernel
theorem d_Mo_input_79 : decode prog_7_method_24_code 79 = .ok (.iconst 0, 1) := by decide +kernel
theorem d_Mo_input_80 : decode prog_7_method_24_code 80 = .ok (.goto 5, 3) := by decide +kernel
theorem d_Mo_input_83 : decode prog_7_method_24_code 83 = .ok (.ldc 121, 2) := by decide +kernel
theorem d_Mo_input_85 : decode prog_7_method_24_code 85 = .ok (.ireturn, 1) := by decide +kernel
theorem d_Mo_using_0 : decode prog_7_method_28_code 0 = .ok (.iconst 0, 1) := by decide +kernel
theorem d_Mo_using_1 : decode prog_7_method_28_code 1 = .ok (.istore_n 1, 1) := by decide +kernel
theorem d_Mo_using_2 : decode prog_7_method_28_code 2 = .ok (.iconst 0, 1) := by decide +kernel
theorem d_Mo_using_3 : decode prog_7_method_28_code 3 = .ok (.istore_n 2, 1) := by decide +kernel
theorem d_Mo_using_4 : decode prog_7_method_28_code 4 = .ok (.iload_n 2, 1) := by decide +kernel
theorem d_Mo_using_5 : decode prog_7_method_28_code 5 = .ok (.aload_n 0, 1) := by decide +kernel
theorem d_Mo_using_6 : decode prog_7_method_28_code 6 = .ok (.getfield 58, 3) := by decide +kernel
theorem d_Mo_using_9 : decode prog_7_method_28_code 9 = .ok (.if_icmp .ge 26, 3) := by decide +kernel
theorem d_Mo_using_12 : decode prog_7_method_28_code 12 = .ok (.iload_n 1, 1) := by decide +kernel
theorem d_Mo_using_13 : decode prog_7_method_28_code 13 = .ok (.aload_n 0, 1) := by decide +kernel
theorem d_Mo_using_14 : decode prog_7_method_28_code 14 = .ok (.getfield 22, 3) := by decide +kernel
theorem d_Mo_using_17 : decode prog_7_method_28_code 17 = .ok (.iload_n 2, 1) := by decide +kernel
theorem d_Mo_using_18 : decode prog_7_method_28_code 18 = .ok (.baload, 1) := by decide +kernel
theorem d_Mo_using_19 : decode prog_7_method_28_code 19 = .ok (.ifCond .eq 7, 3) := by decide +kernel
theorem d_Mo_using_22 : decode prog_7_method_28_code 22 = .ok (.iconst 1, 1) := by decide +kernel
theorem d_Mo_using_23 : decode prog_7_method_28_code 23 = .ok (.goto 4, 3) := by decide +kernel
theorem d_Mo_using_26 : decode prog_7_method_28_code 26 = .ok (.iconst 0, 1) := by decide +kernel
theorem d_Mo_using_27 : decode prog_7_method_28_code 27 = .ok (.iadd, 1) := by decide +kernel
theorem d_Mo_using_28 : decode prog_7_method_28_code 28 = .ok (.istore_n 1, 1) := by decide +kernel
theorem d_Mo_using_29 : decode prog_7_method_28_code 29 = .ok (.iinc 2 1, 3) := by decide +kernel
theorem d_Mo_using_32 : decode prog_7_method_28_code 32 = .ok (.goto (-28), 3) := by decide +kernel
theorem d_Mo_using_35 : decode prog_7_method_28_code 35 = .ok (.iload_n 1, 1) := by decide +kernel
theorem d_Mo_using_36 : decode prog_7_method_28_code 36 = .ok (.ireturn, 1) := by decide +kernel
theorem d_Mo_run_0 : decode prog_7_method_8_code 0 = .ok (.iconst 1, 1) := by decide +kernel
theorem d_Mo_run_1 : decode prog_7_method_8_code 1 = .ok (.istore_n 2, 1) := by decide +kernel
theorem d_Mo_run_2 : decode prog_7_method_8_code 2 = .ok (.iload_n 2, 1) := by decide +kernel
theorem d_Mo_run_3 : decode prog_7_method_8_code 3 = .ok (.bipush 63, 2) := by decide +kernel
theorem d_Mo_run_5 : decode prog_7_method_8_code 5 = .ok (.if_icmp .ge 87, 3) := by decide +kernel
theorem d_Mo_run_8 : decode prog_7_method_8_code 8 = .ok (.iload_n 1, 1) := by decide +kernel
theorem d_Mo_run_9 : decode prog_7_method_8_code 9 = .ok (.iload_n 2, 1) := by decide +kernel
theorem d_Mo_run_10 : decode prog_7_method_8_code 10 = .ok (.iadd, 1) := by decide +kernel
theorem d_Mo_run_11 : decode prog_7_method_8_code 11 = .ok (.aload_n 0, 1) := by decide +kernel
theorem d_Mo_run_12 : decode prog_7_method_8_code 12 = .ok (.getfield 58, 3) := by decide +kernel
theorem d_Mo_run_15 : decode prog_7_method_8_code 15 = .ok (.if_icmp .ge 77, 3) := by decide +kernel
theorem d_Mo_run_18 : decode prog_7_method_8_code 18 = .ok (.aload_n 0, 1) := by decide +kernel
theorem d_Mo_run_19 : decode prog_7_method_8_code 19 = .ok (.getfield 13, 3) := by decide +kernel
theorem d_Mo_run_22 : decode prog_7_method_8_code 22 = .ok (.iload_n 1, 1) := by decide +kernel
theorem d_Mo_run_23 : decode prog_7_method_8_code 23 = .ok (.iload_n 2, 1) := by decide +kernel
theorem d_Mo_run_24 : decode prog_7_method_8_code 24 = .ok (.iadd, 1) := by decide +kernel
theorem d_Mo_run_25 : decode prog_7_method_8_code 25 = .ok (.iaload, 1) := by decide +kernel
theorem d_Mo_run_26 : decode prog_7_method_8_code 26 = .ok (.aload_n 0, 1) := by decide +kernel
theorem d_Mo_run_27 : decode prog_7_method_8_code 27 = .ok (.getfield 13, 3) := by decide +kernel
theorem d_Mo_run_30 : decode prog_7_method_8_code 30 = .ok (.iload_n 1, 1) := by decide +kernel
theorem d_Mo_run_31 : decode prog_7_method_8_code 31 = .ok (.iaload, 1) := by decide +kernel
theorem d_Mo_run_32 : decode prog_7_method_8_code 32 = .ok (.if_icmp .ne 60, 3) := by decide +kernel
theorem d_Mo_run_35 : decode prog_7_method_8_code 35 = .ok (.aload_n 0, 1) := by decide +kernel
theorem d_Mo_run_36 : decode prog_7_method_8_code 36 = .ok (.getfield 16, 3) := by decide +kernel
theorem d_Mo_run_39 : decode prog_7_method_8_code 39 = .ok (.iload_n 1, 1) := by decide +kernel
theorem d_Mo_run_40 : decode prog_7_method_8_code 40 = .ok (.iload_n 2, 1) := by decide +kernel
theorem d_Mo_run_41 : decode prog_7_method_8_code 41 = .ok (.iadd, 1) := by decide +kernel
theorem d_Mo_run_42 : decode prog_7_method_8_code 42 = .ok (.iaload, 1) := by decide +kernel
theorem d_Mo_run_43 : decode prog_7_method_8_code 43 = .ok (.aload_n 0, 1) := by decide +kernel
theorem d_Mo_run_44 : decode prog_7_method_8_code 44 = .ok (.getfield 16, 3) := by decide +kernel
theorem d_Mo_run_47 : decode prog_7_method_8_code 47 = .ok (.iload_n 1, 1) := by decide +kernel
theorem d_Mo_run_48 : decode prog_7_method_8_code 48 = .ok (.iaload, 1) := by decide +kernel
theorem d_Mo_run_49 : decode prog_7_method_8_code 49 = .ok (.if_icmp .ne 43, 3) := by decide +kernel
theorem d_Mo_run_52 : decode prog_7_method_8_code 52 = .ok (.aload_n 0, 1) := by decide +kernel
theorem d_Mo_run_53 : decode prog_7_method_8_code 53 = .ok (.getfield 19, 3) := by decide +kernel
theorem d_Mo_run_56 : decode prog_7_method_8_code 56 = .ok (.iload_n 1, 1) := by decide +kernel
theorem d_Mo_run_57 : decode prog_7_method_8_code 57 = .ok (.iload_n 2, 1) := by decide +kernel
theorem d_Mo_run_58 : decode prog_7_method_8_code 58 = .ok (.iadd, 1) := by decide +kernel
theorem d_Mo_run_59 : decode prog_7_method_8_code 59 = .ok (.iaload, 1) := by decide +kernel
theorem d_Mo_run_60 : decode prog_7_method_8_code 60 = .ok (.aload_n 0, 1) := by decide +kernel
theorem d_Mo_run_61 : decode prog_7_method_8_code 61 = .ok (.getfield 19, 3) := by decide +kernel
theorem d_Mo_run_64 : decode prog_7_method_8_code 64 = .ok (.iload_n 1, 1) := by decide +kernel
theorem d_Mo_run_65 : decode prog_7_method_8_code 65 = .ok (.iaload, 1) := by decide +kernel
theorem d_Mo_run_66 : decode prog_7_method_8_code 66 = .ok (.if_icmp .ne 26, 3) := by decide +kernel
theorem d_Mo_run_69 : decode prog_7_method_8_code 69 = .ok (.aload_n 0, 1) := by decide +kernel
theorem d_Mo_run_70 : decode prog_7_method_8_code 70 = .ok (.getfield 22, 3) := by decide +kernel
theorem d_Mo_run_73 : decode prog_7_method_8_code 73 = .ok (.iload_n 1, 1) := by decide +kernel
theorem d_Mo_run_74 : decode prog_7_method_8_code 74 = .ok (.iload_n 2, 1) := by decide +kernel
theorem d_Mo_run_75 : decode prog_7_method_8_code 75 = .ok (.iadd, 1) := by decide +kernel
theorem d_Mo_run_76 : decode prog_7_method_8_code 76 = .ok (.baload, 1) := by decide +kernel
theorem d_Mo_run_77 : decode prog_7_method_8_code 77 = .ok (.aload_n 0, 1) := by decide +kernel
theorem d_Mo_run_78 : decode prog_7_method_8_code 78 = .ok (.getfield 22, 3) := by decide +kernel
theorem d_Mo_run_81 : decode prog_7_method_8_code 81 = .ok (.iload_n 1, 1) := by decide +kernel
theorem d_Mo_run_82 : decode prog_7_method_8_code 82 = .ok (.baload, 1) := by decide +kernel
theorem d_Mo_run_83 : decode prog_7_method_8_code 83 = .ok (.if_icmp .ne 9, 3) := by decide +kernel
theorem d_Mo_run_86 : decode prog_7_method_8_code 86 = .ok (.iinc 2 1, 3) := by decide +kernel
theorem d_Mo_run_89 : decode prog_7_method_8_code 89 = .ok (.goto (-87), 3) := by decide +kernel
theorem d_Mo_run_92 : decode prog_7_method_8_code 92 = .ok (.iload_n 2, 1) := by decide +kernel
theorem d_Mo_run_93 : decode prog_7_method_8_code 93 = .ok (.ireturn, 1) := by decide +kernel
theorem d_Mo_groups_0 : decode prog_7_method_27_code 0 = .ok (.iconst 0, 1) := by decide +kernel
theorem d_Mo_groups_1 : decode prog_7_method_27_code 1 = .ok (.istore_n 1, 1) := by decide +kernel
theorem d_Mo_groups_2 : decode prog_7_method_27_code 2 = .ok (.iconst 0, 1) := by decide +kernel
theorem d_Mo_groups_3 : decode prog_7_method_27_code 3 = .ok (.istore_n 2, 1) := by decide +kernel
theorem d_Mo_groups_4 : decode prog_7_method_27_code 4 = .ok (.iload_n 2, 1) := by decide +kernel
theorem d_Mo_groups_5 : decode prog_7_method_27_code 5 = .ok (.aload_n 0, 1) := by decide +kernel
theorem d_Mo_groups_6 : decode prog_7_method_27_code 6 = .ok (.getfield 58, 3) := by decide +kernel
theorem d_Mo_groups_9 : decode prog_7_method_27_code 9 = .ok (.if_icmp .ge 17, 3) := by decide +kernel
theorem d_Mo_groups_12 : decode prog_7_method_27_code 12 = .ok (.iinc 1 1, 3) := by decide +kernel
theorem d_Mo_groups_15 : decode prog_7_method_27_code 15 = .ok (.iload_n 2, 1) := by decide +kernel
theorem d_Mo_groups_16 : decode prog_7_method_27_code 16 = .ok (.aload_n 0, 1) := by decide +kernel
theorem d_Mo_groups_17 : decode prog_7_method_27_code 17 = .ok (.iload_n 2, 1) := by decide +kernel
theorem d_Mo_groups_18 : decode prog_7_method_27_code 18 = .ok (.invokevirtual 75, 3) := by decide +kernel
theorem d_Mo_groups_21 : decode prog_7_method_27_code 21 = .ok (.iadd, 1) := by decide +kernel
theorem d_Mo_groups_22 : decode prog_7_method_27_code 22 = .ok (.istore_n 2, 1) := by decide +kernel
theorem d_Mo_groups_23 : decode prog_7_method_27_code 23 = .ok (.goto (-19), 3) := by decide +kernel
theorem d_Mo_groups_26 : decode prog_7_method_27_code 26 = .ok (.iload_n 1, 1) := by decide +kernel
theorem d_Mo_groups_27 : decode prog_7_method_27_code 27 = .ok (.ireturn, 1) := by decide +kernel
theorem d_Mo_look_0 : decode prog_7_method_29_code 0 = .ok (.aload_n 0, 1) := by decide +kernel
theorem d_Mo_look_1 : decode prog_7_method_29_code 1 = .ok (.iconst 0, 1) := by decide +kernel
theorem d_Mo_look_2 : decode prog_7_method_29_code 2 = .ok (.putfield 51, 3) := by decide +kernel
theorem d_Mo_look_5 : decode prog_7_method_29_code 5 = .ok (.iload_n 1, 1) := by decide +kernel
theorem d_Mo_look_6 : decode prog_7_method_29_code 6 = .ok (.tableswitch 77 0 6 #[42, 47, 52, 57, 62, 67, 72], 42) := by decide +kernel
theorem d_Mo_look_48 : decode prog_7_method_29_code 48 = .ok (.aload_n 0, 1) := by decide +kernel
theorem d_Mo_look_49 : decode prog_7_method_29_code 49 = .ok (.getfield 58, 3) := by decide +kernel
theorem d_Mo_look_52 : decode prog_7_method_29_code 52 = .ok (.ireturn, 1) := by decide +kernel
theorem d_Mo_look_53 : decode prog_7_method_29_code 53 = .ok (.aload_n 0, 1) := by decide +kernel
theorem d_Mo_look_54 : decode prog_7_method_29_code 54 = .ok (.invokevirtual 122, 3) := by decide +kernel
theorem d_Mo_look_57 : decode prog_7_method_29_code 57 = .ok (.ireturn, 1) := by decide +kernel
theorem d_Mo_look_58 : decode prog_7_method_29_code 58 = .ok (.aload_n 0, 1) := by decide +kernel
theorem d_Mo_look_59 : decode prog_7_method_29_code 59 = .ok (.getfield 61, 3) := by decide +kernel
theorem d_Mo_look_62 : decode prog_7_method_29_code 62 = .ok (.ireturn, 1) := by decide +kernel
theorem d_Mo_look_63 : decode prog_7_method_29_code 63 = .ok (.aload_n 0, 1) := by decide +kernel
theorem d_Mo_look_64 : decode prog_7_method_29_code 64 = .ok (.getfield 85, 3) := by decide +kernel
theorem d_Mo_look_67 : decode prog_7_method_29_code 67 = .ok (.ireturn, 1) := by decide +kernel
theorem d_Mo_look_68 : decode prog_7_method_29_code 68 = .ok (.aload_n 0, 1) := by decide +kernel
theorem d_Mo_look_69 : decode prog_7_method_29_code 69 = .ok (.getfield 90, 3) := by decide +kernel
theorem d_Mo_look_72 : decode prog_7_method_29_code 72 = .ok (.ireturn, 1) := by decide +kernel
theorem d_Mo_look_73 : decode prog_7_method_29_code 73 = .ok (.aload_n 0, 1) := by decide +kernel
theorem d_Mo_look_74 : decode prog_7_method_29_code 74 = .ok (.getfield 47, 3) := by decide +kernel
theorem d_Mo_look_77 : decode prog_7_method_29_code 77 = .ok (.ireturn, 1) := by decide +kernel
theorem d_Mo_look_78 : decode prog_7_method_29_code 78 = .ok (.aload_n 0, 1) := by decide +kernel
theorem d_Mo_look_79 : decode prog_7_method_29_code 79 = .ok (.invokevirtual 125, 3) := by decide +kernel
theorem d_Mo_look_82 : decode prog_7_method_29_code 82 = .ok (.ireturn, 1) := by decide +kernel
theorem d_Mo_look_83 : decode prog_7_method_29_code 83 = .ok (.iconst (-1), 1) := by decide +kernel
theorem d_Mo_look_84 : decode prog_7_method_29_code 84 = .ok (.ireturn, 1) := by decide +kernel
theorem d_Mo_put_0 : decode prog_7_method_9_code 0 = .ok (.aload_n 0, 1) := by decide +kernel
theorem d_Mo_put_1 : decode prog_7_method_9_code 1 = .ok (.getfield 26, 3) := by decide +kernel
theorem d_Mo_put_4 : decode prog_7_method_9_code 4 = .ok (.aload_n 0, 1) := by decide +kernel
theorem d_Mo_put_5 : decode prog_7_method_9_code 5 = .ok (.getfield 61, 3) := by decide +kernel
theorem d_Mo_put_8 : decode prog_7_method_9_code 8 = .ok (.iload_n 1, 1) := by decide +kernel
theorem d_Mo_put_9 : decode prog_7_method_9_code 9 = .ok (.sipush 255, 3) := by decide +kernel
theorem d_Mo_put_12 : decode prog_7_method_9_code 12 = .ok (.iand, 1) := by decide +kernel
theorem d_Mo_put_13 : decode prog_7_method_9_code 13 = .ok (.iastore, 1) := by decide +kernel
theorem d_Mo_put_14 : decode prog_7_method_9_code 14 = .ok (.aload_n 0, 1) := by decide +kernel
theorem d_Mo_put_15 : decode prog_7_method_9_code 15 = .ok (.dup, 1) := by decide +kernel
theorem d_Mo_put_16 : decode prog_7_method_9_code 16 = .ok (.getfield 61, 3) := by decide +kernel
theorem d_Mo_put_19 : decode prog_7_method_9_code 19 = .ok (.iconst 1, 1) := by decide +kernel
theorem d_Mo_put_20 : decode prog_7_method_9_code 20 = .ok (.iadd, 1) := by decide +kernel
theorem d_Mo_put_21 : decode prog_7_method_9_code 21 = .ok (.putfield 61, 3) := by decide +kernel
theorem d_Mo_put_24 : decode prog_7_method_9_code 24 = .ok (.return_, 1) := by decide +kernel
theorem d_Mo_sum_0 : decode prog_7_method_10_code 0 = .ok (.aload_n 0, 1) := by decide +kernel
theorem d_Mo_sum_1 : decode prog_7_method_10_code 1 = .ok (.aload_n 0, 1) := by decide +kernel
theorem d_Mo_sum_2 : decode prog_7_method_10_code 2 = .ok (.getfield 64, 3) := by decide +kernel
theorem d_Mo_sum_5 : decode prog_7_method_10_code 5 = .ok (.iload_n 1, 1) := by decide +kernel
theorem d_Mo_sum_6 : decode prog_7_method_10_code 6 = .ok (.iadd, 1) := by decide +kernel
theorem d_Mo_sum_7 : decode prog_7_method_10_code 7 = .ok (.ldc 67, 2) := by decide +kernel
theorem d_Mo_sum_9 : decode prog_7_method_10_code 9 = .ok (.irem, 1) := by decide +kernel
theorem d_Mo_sum_10 : decode prog_7_method_10_code 10 = .ok (.putfield 64, 3) := by decide +kernel
theorem d_Mo_sum_13 : decode prog_7_method_10_code 13 = .ok (.aload_n 0, 1) := by decide +kernel
theorem d_Mo_sum_14 : decode prog_7_method_10_code 14 = .ok (.aload_n 0, 1) := by decide +kernel
theorem d_Mo_sum_15 : decode prog_7_method_10_code 15 = .ok (.getfield 68, 3) := by decide +kernel
theorem d_Mo_sum_18 : decode prog_7_method_10_code 18 = .ok (.aload_n 0, 1) := by decide +kernel
theorem d_Mo_sum_19 : decode prog_7_method_10_code 19 = .ok (.getfield 64, 3) := by decide +kernel
theorem d_Mo_sum_22 : decode prog_7_method_10_code 22 = .ok (.iadd, 1) := by decide +kernel
theorem d_Mo_sum_23 : decode prog_7_method_10_code 23 = .ok (.ldc 67, 2) := by decide +kernel
theorem d_Mo_sum_25 : decode prog_7_method_10_code 25 = .ok (.irem, 1) := by decide +kernel
theorem d_Mo_sum_26 : decode prog_7_method_10_code 26 = .ok (.putfield 68, 3) := by decide +kernel
theorem d_Mo_sum_29 : decode prog_7_method_10_code 29 = .ok (.return_, 1) := by decide +kernel
theorem d_Mo_checkByte_0 : decode prog_7_method_11_code 0 = .ok (.iload_n 1, 1) := by decide +kernel
theorem d_Mo_checkByte_1 : decode prog_7_method_11_code 1 = .ok (.iconst 2, 1) := by decide +kernel
theorem d_Mo_checkByte_2 : decode prog_7_method_11_code 2 = .ok (.if_icmp .ge 10, 3) := by decide +kernel
theorem d_Mo_checkByte_5 : decode prog_7_method_11_code 5 = .ok (.aload_n 0, 1) := by decide +kernel
theorem d_Mo_checkByte_6 : decode prog_7_method_11_code 6 = .ok (.getfield 68, 3) := by decide +kernel
theorem d_Mo_checkByte_9 : decode prog_7_method_11_code 9 = .ok (.goto 7, 3) := by decide +kernel
theorem d_Mo_checkByte_12 : decode prog_7_method_11_code 12 = .ok (.aload_n 0, 1) := by decide +kernel
theorem d_Mo_checkByte_13 : decode prog_7_method_11_code 13 = .ok (.getfield 64, 3) := by decide +kernel
theorem d_Mo_checkByte_16 : decode prog_7_method_11_code 16 = .ok (.istore_n 2, 1) := by decide +kernel
theorem d_Mo_checkByte_17 : decode prog_7_method_11_code 17 = .ok (.iload_n 1, 1) := by decide +kernel
theorem d_Mo_checkByte_18 : decode prog_7_method_11_code 18 = .ok (.iconst 2, 1) := by decide +kernel
theorem d_Mo_checkByte_19 : decode prog_7_method_11_code 19 = .ok (.irem, 1) := by decide +kernel
theorem d_Mo_checkByte_20 : decode prog_7_method_11_code 20 = .ok (.ifCond .ne 11, 3) := by decide +kernel
theorem d_Mo_checkByte_23 : decode prog_7_method_11_code 23 = .ok (.iload_n 2, 1) := by decide +kernel
theorem d_Mo_checkByte_24 : decode prog_7_method_11_code 24 = .ok (.sipush 256, 3) := by decide +kernel
theorem d_Mo_checkByte_27 : decode prog_7_method_11_code 27 = .ok (.idiv, 1) := by decide +kernel
theorem d_Mo_checkByte_28 : decode prog_7_method_11_code 28 = .ok (.goto 8, 3) := by decide +kernel
theorem d_Mo_checkByte_31 : decode prog_7_method_11_code 31 = .ok (.iload_n 2, 1) := by decide +kernel
theorem d_Mo_checkByte_32 : decode prog_7_method_11_code 32 = .ok (.sipush 256, 3) := by decide +kernel
theorem d_Mo_checkByte_35 : decode prog_7_method_11_code 35 = .ok (.irem, 1) := by decide +kernel
theorem d_Mo_checkByte_36 : decode prog_7_method_11_code 36 = .ok (.ireturn, 1) := by decide +kernel
