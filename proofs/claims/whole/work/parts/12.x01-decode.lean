theorem d_Mo_input_30 : decode prog_7_method_24_code 30 = .ok (.goto 55, 3) := by decide +kernel
theorem d_Mo_input_33 : decode prog_7_method_24_code 33 = .ok (.iload_n 2, 1) := by decide +kernel
theorem d_Mo_input_34 : decode prog_7_method_24_code 34 = .ok (.iconst 1, 1) := by decide +kernel
theorem d_Mo_input_35 : decode prog_7_method_24_code 35 = .ok (.if_icmp .ne 12, 3) := by decide +kernel
theorem d_Mo_input_38 : decode prog_7_method_24_code 38 = .ok (.aload_n 0, 1) := by decide +kernel
theorem d_Mo_input_39 : decode prog_7_method_24_code 39 = .ok (.getfield 16, 3) := by decide +kernel
theorem d_Mo_input_42 : decode prog_7_method_24_code 42 = .ok (.iload_n 1, 1) := by decide +kernel
theorem d_Mo_input_43 : decode prog_7_method_24_code 43 = .ok (.iaload, 1) := by decide +kernel
theorem d_Mo_input_44 : decode prog_7_method_24_code 44 = .ok (.goto 41, 3) := by decide +kernel
theorem d_Mo_input_47 : decode prog_7_method_24_code 47 = .ok (.iload_n 2, 1) := by decide +kernel
theorem d_Mo_input_48 : decode prog_7_method_24_code 48 = .ok (.iconst 2, 1) := by decide +kernel
theorem d_Mo_input_49 : decode prog_7_method_24_code 49 = .ok (.if_icmp .ne 12, 3) := by decide +kernel
theorem d_Mo_input_52 : decode prog_7_method_24_code 52 = .ok (.aload_n 0, 1) := by decide +kernel
theorem d_Mo_input_53 : decode prog_7_method_24_code 53 = .ok (.getfield 19, 3) := by decide +kernel
theorem d_Mo_input_56 : decode prog_7_method_24_code 56 = .ok (.iload_n 1, 1) := by decide +kernel
theorem d_Mo_input_57 : decode prog_7_method_24_code 57 = .ok (.iaload, 1) := by decide +kernel
theorem d_Mo_input_58 : decode prog_7_method_24_code 58 = .ok (.goto 27, 3) := by decide +kernel
theorem d_Mo_input_61 : decode prog_7_method_24_code 61 = .ok (.iload_n 2, 1) := by decide +kernel
theorem d_Mo_input_62 : decode prog_7_method_24_code 62 = .ok (.iconst 3, 1) := by decide +kernel
theorem d_Mo_input_63 : decode prog_7_method_24_code 63 = .ok (.if_icmp .ne 20, 3) := by decide +kernel
theorem d_Mo_input_66 : decode prog_7_method_24_code 66 = .ok (.aload_n 0, 1) := by decide +kernel
theorem d_Mo_input_67 : decode prog_7_method_24_code 67 = .ok (.getfield 22, 3) := by decide +kernel
theorem d_Mo_input_70 : decode prog_7_method_24_code 70 = .ok (.iload_n 1, 1) := by decide +kernel
theorem d_Mo_input_71 : decode prog_7_method_24_code 71 = .ok (.baload, 1) := by decide +kernel
theorem d_Mo_input_72 : decode prog_7_method_24_code 72 = .ok (.ifCond .eq 7, 3) := by decide +kernel
theorem d_Mo_input_75 : decode prog_7_method_24_code 75 = .ok (.iconst 1, 1) := by decide +kernel
theorem d_Mo_input_76 : decode prog_7_method_24_code 76 = .ok (.goto 9, 3) := by decide +kernel
theorem d_Mo_input_79 : decode prog_7_method_24_code 79 = .ok (.iconst 0, 1) := by decide +kernel
theorem d_Mo_input_80 : decode prog_7_method_24_code 80 = .ok (.goto 5, 3) := by decide +kernel
theorem d_Mo_input_83 : decode prog_7_method_24_code 83 = .ok (.ldc 121, 2) := by decide +kernel
theorem d_Mo_input_85 : decode prog_7_method_24_code 85 = .ok (.ireturn, 1) := by decide +kernel
theorem d_Mo_using_0 : decode prog_7_method_28_code 0 = .ok (.iconst 0, 1) := by decide +kernel
theorem d_Mo_using_1 : decode prog_7_method_28_code 1 = .ok (.istore_n 1, 1) := by decide +kernel
theorem d_Mo_using_2 : decode prog_7_method_28_code 2 = .ok (.iconst 0, 1) := by decide +kernel
theorem d_Mo_using_3 : decode prog_7_method_28_code 3 = .ok (.istore_n 2, 1) := by decide +kernel
theorem d_Mo_using_4 : decode prog_7_method_28_code 4 = .ok (.iload_n 2, 1) := by decide +kernel
theorem d_Mo_using_5 : decode prog_7_method_28_code 5 = .ok (.aload_n 0, 1) := by decide +kernel
theorem d_Mo_using_6 : decode prog_7_method_28_code 6 = .ok (.getfield 58, 3) := by decide +kernel
theorem d_Mo_using_9 : decode prog_7_method_28_code 9 = .ok (.if_icmp .ge 26, 3) := by decide +kernel
theorem d_Mo_using_12 : decode prog_7_method_28_code 12 = .ok (.iload_n 1, 1) := by decide +kernel
theorem d_Mo_using_13 : decode prog_7_method_28_code 13 = .ok (.aload_n 0, 1) := by decide +kernel
theorem d_Mo_using_14 : decode prog_7_method_28_code 14 = .ok (.getfield 22, 3) := by decide +kernel
theorem d_Mo_using_17 : decode prog_7_method_28_code 17 = .ok (.iload_n 2, 1) := by decide +kernel
theorem d_Mo_using_18 : decode prog_7_method_28_code 18 = .ok (.baload, 1) := by decide +kernel
theorem d_Mo_using_19 : decode prog_7_method_28_code 19 = .ok (.ifCond .eq 7, 3) := by decide +kernel
theorem d_Mo_using_22 : decode prog_7_method_28_code 22 = .ok (.iconst 1, 1) := by decide +kernel
theorem d_Mo_using_23 : decode prog_7_method_28_code 23 = .ok (.goto 4, 3) := by decide +kernel
theorem d_Mo_using_26 : decode prog_7_method_28_code 26 = .ok (.iconst 0, 1) := by decide +kernel
theorem d_Mo_using_27 : decode prog_7_method_28_code 27 = .ok (.iadd, 1) := by decide +kernel
theorem d_Mo_using_28 : decode prog_7_method_28_code 28 = .ok (.istore_n 1, 1) := by decide +kernel
theorem d_Mo_using_29 : decode prog_7_method_28_code 29 = .ok (.iinc 2 1, 3) := by decide +kernel
theorem d_Mo_using_32 : decode prog_7_method_28_code 32 = .ok (.goto (-28), 3) := by decide +kernel
theorem d_Mo_using_35 : decode prog_7_method_28_code 35 = .ok (.iload_n 1, 1) := by decide +kernel
theorem d_Mo_using_36 : decode prog_7_method_28_code 36 = .ok (.ireturn, 1) := by decide +kernel
theorem d_Mo_run_0 : decode prog_7_method_8_code 0 = .ok (.iconst 1, 1) := by decide +kernel
theorem d_Mo_run_1 : decode prog_7_method_8_code 1 = .ok (.istore_n 2, 1) := by decide +kernel
theorem d_Mo_run_2 : decode prog_7_method_8_code 2 = .ok (.iload_n 2, 1) := by decide +kernel
theorem d_Mo_run_3 : decode prog_7_method_8_code 3 = .ok (.bipush 63, 2) := by decide +kernel
theorem d_Mo_run_5 : decode prog_7_method_8_code 5 = .ok (.if_icmp .ge 87, 3) := by decide +kernel
theorem d_Mo_run_8 : decode prog_7_method_8_code 8 = .ok (.iload_n 1, 1) := by decide +kernel
theorem d_Mo_run_9 : decode prog_7_method_8_code 9 = .ok (.iload_n 2, 1) := by decide +kernel
theorem d_Mo_run_10 : decode prog_7_method_8_code 10 = .ok (.iadd, 1) := by decide +kernel
theorem d_Mo_run_11 : decode prog_7_method_8_code 11 = .ok (.aload_n 0, 1) := by decide +kernel
theorem d_Mo_run_12 : decode prog_7_method_8_code 12 = .ok (.getfield 58, 3) := by decide +kernel
theorem d_Mo_run_15 : decode prog_7_method_8_code 15 = .ok (.if_icmp .ge 77, 3) := by decide +kernel
theorem d_Mo_run_18 : decode prog_7_method_8_code 18 = .ok (.aload_n 0, 1) := by decide +kernel
theorem d_Mo_run_19 : decode prog_7_method_8_code 19 = .ok (.getfield 13, 3) := by decide +kernel
theorem d_Mo_run_22 : decode prog_7_method_8_code 22 = .ok (.iload_n 1, 1) := by decide +kernel
theorem d_Mo_run_23 : decode prog_7_method_8_code 23 = .ok (.iload_n 2, 1) := by decide +kernel
theorem d_Mo_run_24 : decode prog_7_method_8_code 24 = .ok (.iadd, 1) := by decide +kernel
theorem d_Mo_run_25 : decode prog_7_method_8_code 25 = .ok (.iaload, 1) := by decide +kernel
theorem d_Mo_run_26 : decode prog_7_method_8_code 26 = .ok (.aload_n 0, 1) := by decide +kernel
theorem d_Mo_run_27 : decode prog_7_method_8_code 27 = .ok (.getfield 13, 3) := by decide +kernel
theorem d_Mo_run_30 : decode prog_7_method_8_code 30 = .ok (.iload_n 1, 1) := by decide +kernel
theorem d_Mo_run_31 : decode prog_7_method_8_code 31 = .ok (.iaload, 1) := by decide +kernel
theorem d_Mo_run_32 : decode prog_7_method_8_code 32 = .ok (.if_icmp .ne 60, 3) := by decide +kernel
theorem d_Mo_run_35 : decode prog_7_method_8_code 35 = .ok (.aload_n 0, 1) := by decide +kernel
theorem d_Mo_run_36 : decode prog_7_method_8_code 36 = .ok (.getfield 16, 3) := by decide +kernel
theorem d_Mo_run_39 : decode prog_7_method_8_code 39 = .ok (.iload_n 1, 1) := by decide +kernel
theorem d_Mo_run_40 : decode prog_7_method_8_code 40 = .ok (.iload_n 2, 1) := by decide +kernel
theorem d_Mo_run_41 : decode prog_7_method_8_code 41 = .ok (.iadd, 1) := by decide +kernel
theorem d_Mo_run_42 : decode prog_7_method_8_code 42 = .ok (.iaload, 1) := by decide +kernel
theorem d_Mo_run_43 : decode prog_7_method_8_code 43 = .ok (.aload_n 0, 1) := by decide +kernel
theorem d_Mo_run_44 : decode prog_7_method_8_code 44 = .ok (.getfield 16, 3) := by decide +kernel
theorem d_Mo_run_47 : decode prog_7_method_8_code 47 = .ok (.iload_n 1, 1) := by decide +kernel
theorem d_Mo_run_48 : decode prog_7_method_8_code 48 = .ok (.iaload, 1) := by decide +kernel
theorem d_Mo_run_49 : decode prog_7_method_8_code 49 = .ok (.if_icmp .ne 43, 3) := by decide +kernel
theorem d_Mo_run_52 : decode prog_7_method_8_code 52 = .ok (.aload_n 0, 1) := by decide +kernel
theorem d_Mo_run_53 : decode prog_7_method_8_code 53 = .ok (.getfield 19, 3) := by decide +kernel
theorem d_Mo_run_56 : decode prog_7_method_8_code 56 = .ok (.iload_n 1, 1) := by decide +kernel
theorem d_Mo_run_57 : decode prog_7_method_8_code 57 = .ok (.iload_n 2, 1) := by decide +kernel
theorem d_Mo_run_58 : decode prog_7_method_8_code 58 = .ok (.iadd, 1) := by decide +kernel
theorem d_Mo_run_59 : decode prog_7_method_8_code 59 = .ok (.iaload, 1) := by decide +kernel
theorem d_Mo_run_60 : decode prog_7_method_8_code 60 = .ok (.aload_n 0, 1) := by decide +kernel
theorem d_Mo_run_61 : decode prog_7_method_8_code 61 = .ok (.getfield 19, 3) := by decide +kernel
theorem d_Mo_run_64 : decode prog_7_method_8_code 64 = .ok (.iload_n 1, 1) := by decide +kernel
theorem d_Mo_run_65 : decode prog_7_method_8_code 65 = .ok (.iaload, 1) := by decide +kernel
theorem d_Mo_run_66 : decode prog_7_method_8_code 66 = .ok (.if_icmp .ne 26, 3) := by decide +kernel
theorem d_Mo_run_69 : decode prog_7_method_8_code 69 = .ok (.aload_n 0, 1) := by decide +kernel
theorem d_Mo_run_70 : decode prog_7_method_8_code 70 = .ok (.getfield 22, 3) := by decide +kernel
theorem d_Mo_run_73 : decode prog_7_method_8_code 73 = .ok (.iload_n 1, 1) := by decide +kernel
theorem d_Mo_run_74 : decode prog_7_method_8_code 74 = .ok (.iload_n 2, 1) := by decide +kernel
theorem d_Mo_run_75 : decode prog_7_method_8_code 75 = .ok (.iadd, 1) := by decide +kernel
theorem d_Mo_run_76 : decode prog_7_method_8_code 76 = .ok (.baload, 1) := by decide +kernel
theorem d_Mo_run_77 : decode prog_7_method_8_code 77 = .ok (.aload_n 0, 1) := by decide +kernel
theorem d_Mo_run_78 : decode prog_7_method_8_code 78 = .ok (.getfield 22, 3) := by decide +kernel
theorem d_Mo_run_81 : decode prog_7_method_8_code 81 = .ok (.iload_n 1, 1) := by decide +kernel
theorem d_Mo_run_82 : decode prog_7_method_8_code 82 = .ok (.baload, 1) := by decide +kernel
theorem d_Mo_run_83 : decode prog_7_method_8_code 83 = .ok (.if_icmp .ne 9, 3) := by decide +kernel
theorem d_Mo_run_86 : decode prog_7_method_8_code 86 = .ok (.iinc 2 1, 3) := by decide +kernel
theorem d_Mo_run_89 : decode prog_7_method_8_code 89 = .ok (.goto (-87), 3) := by decide +kernel
theorem d_Mo_run_92 : decode prog_7_method_8_code 92 = .ok (.iload_n 2, 1) := by decide +kernel
theorem d_Mo_run_93 : decode prog_7_method_8_code 93 = .ok (.ireturn, 1) := by decide +kernel
theorem d_Mo_groups_0 : decode prog_7_method_27_code 0 = .ok (.iconst 0, 1) := by decide +kernel
theorem d_Mo_groups_1 : decode prog_7_method_27_code 1 = .ok (.istore_n 1, 1) := by decide +kernel
theorem d_Mo_groups_2 : decode prog_7_method_27_code 2 = .ok (.iconst 0, 1) := by decide +kernel
theorem d_Mo_groups_3 : decode prog_7_method_27_code 3 = .ok (.istore_n 2, 1) := by decide +kernel
theorem d_Mo_groups_4 : decode prog_7_method_27_code 4 = .ok (.iload_n 2, 1) := by decide +kernel
theorem d_Mo_groups_5 : decode prog_7_method_27_code 5 = .ok (.aload_n 0, 1) := by decide +kernel
theorem d_Mo_groups_6 : decode prog_7_method_27_code 6 = .ok (.getfield 58, 3) := by decide +kernel
theorem d_Mo_groups_9 : decode prog_7_method_27_code 9 = .ok (.if_icmp .ge 17, 3) := by decide +kernel
theorem d_Mo_groups_12 : decode prog_7_method_27_code 12 = .ok (.iinc 1 1, 3) := by decide +kernel
theorem d_Mo_groups_15 : decode prog_7_method_27_code 15 = .ok (.iload_n 2, 1) := by decide +kernel
theorem d_Mo_groups_16 : decode prog_7_method_27_code 16 = .ok (.aload_n 0, 1) := by decide +kernel
theorem d_Mo_groups_17 : decode prog_7_method_27_code 17 = .ok (.iload_n 2, 1) := by decide +kernel
theorem d_Mo_groups_18 : decode prog_7_method_27_code 18 = .ok (.invokevirtual 75, 3) := by decide +kernel
theorem d_Mo_groups_21 : decode prog_7_method_27_code 21 = .ok (.iadd, 1) := by decide +kernel
theorem d_Mo_groups_22 : decode prog_7_method_27_code 22 = .ok (.istore_n 2, 1) := by decide +kernel
theorem d_Mo_groups_23 : decode prog_7_method_27_code 23 = .ok (.goto (-19), 3) := by decide +kernel
theorem d_Mo_groups_26 : decode prog_7_method_27_code 26 = .ok (.iload_n 1, 1) := by decide +kernel
theorem d_Mo_groups_27 : decode prog_7_method_27_code 27 = .ok (.ireturn, 1) := by decide +kernel
theorem d_Mo_look_0 : decode prog_7_method_29_code 0 = .ok (.aload_n 0, 1) := by decide +kernel
theorem d_Mo_look_1 : decode prog_7_method_29_code 1 = .ok (.iconst 0, 1) := by decide +kernel
theorem d_Mo_look_2 : decode prog_7_method_29_code 2 = .ok (.putfield 51, 3) := by decide +kernel
theorem d_Mo_look_5 : decode prog_7_method_29_code 5 = .ok (.iload_n 1, 1) := by decide +kernel
theorem d_Mo_look_6 : decode prog_7_method_29_code 6 = .ok (.tableswitch 77 0 6 #[42, 47, 52, 57, 62, 67, 72], 42) := by decide +kernel
theorem d_Mo_look_48 : decode prog_7_method_29_code 48 = .ok (.aload_n 0, 1) := by decide +kernel
theorem d_Mo_look_49 : decode prog_7_method_29_code 49 = .ok (.getfield 58, 3) := by decide +kernel
theorem d_Mo_look_52 : decode prog_7_method_29_code 52 = .ok (.ireturn, 1) := by decide +kernel
theorem d_Mo_look_53 : decode prog_7_method_29_code 53 = .ok (.aload_n 0, 1) := by decide +kernel
theorem d_Mo_look_54 : decode prog_7_method_29_code 54 = .ok (.invokevirtual 122, 3) := by decide +kernel
theorem d_Mo_look_57 : decode prog_7_method_29_code 57 = .ok (.ireturn, 1) := by decide +kernel
theorem d_Mo_look_58 : decode prog_7_method_29_code 58 = .ok (.aload_n 0, 1) := by decide +kernel
theorem d_Mo_look_59 : decode prog_7_method_29_code 59 = .ok (.getfield 61, 3) := by decide +kernel
theorem d_Mo_look_62 : decode prog_7_method_29_code 62 = .ok (.ireturn, 1) := by decide +kernel
theorem d_Mo_look_63 : decode prog_7_method_29_code 63 = .ok (.aload_n 0, 1) := by decide +kernel
theorem d_Mo_look_64 : decode prog_7_method_29_code 64 = .ok (.getfield 85, 3) := by decide +kernel
theorem d_Mo_look_67 : decode prog_7_method_29_code 67 = .ok (.ireturn, 1) := by decide +kernel
theorem d_Mo_look_68 : decode prog_7_method_29_code 68 = .ok (.aload_n 0, 1) := by decide +kernel
theorem d_Mo_look_69 : decode prog_7_method_29_code 69 = .ok (.getfield 90, 3) := by decide +kernel
theorem d_Mo_look_72 : decode prog_7_method_29_code 72 = .ok (.ireturn, 1) := by decide +kernel
theorem d_Mo_look_73 : decode prog_7_method_29_code 73 = .ok (.aload_n 0, 1) := by decide +kernel
theorem d_Mo_look_74 : decode prog_7_method_29_code 74 = .ok (.getfield 47, 3) := by decide +kernel
theorem d_Mo_look_77 : decode prog_7_method_29_code 77 = .ok (.ireturn, 1) := by decide +kernel
theorem d_Mo_look_78 : decode prog_7_method_29_code 78 = .ok (.aload_n 0, 1) := by decide +kernel
theorem d_Mo_look_79 : decode prog_7_method_29_code 79 = .ok (.invokevirtual 125, 3) := by decide +kernel
theorem d_Mo_look_82 : decode prog_7_method_29_code 82 = .ok (.ireturn, 1) := by decide +kernel
theorem d_Mo_look_83 : decode prog_7_method_29_code 83 = .ok (.iconst (-1), 1) := by decide +kernel
theorem d_Mo_look_84 : decode prog_7_method_29_code 84 = .ok (.ireturn, 1) := by decide +kernel
theorem d_Mo_put_0 : decode prog_7_method_9_code 0 = .ok (.aload_n 0, 1) := by decide +kernel
theorem d_Mo_put_1 : decode prog_7_method_9_code 1 = .ok (.getfield 26, 3) := by decide +kernel
theorem d_Mo_put_4 : decode prog_7_method_9_code 4 = .ok (.aload_n 0, 1) := by decide +kernel
theorem d_Mo_put_5 : decode prog_7_method_9_code 5 = .ok (.getfield 61, 3) := by decide +kernel
theorem d_Mo_put_8 : decode prog_7_method_9_code 8 = .ok (.iload_n 1, 1) := by decide +kernel
theorem d_Mo_put_9 : decode prog_7_method_9_code 9 = .ok (.sipush 255, 3) := by decide +kernel
theorem d_Mo_put_12 : decode prog_7_method_9_code 12 = .ok (.iand, 1) := by decide +kernel
theorem d_Mo_put_13 : decode prog_7_method_9_code 13 = .ok (.iastore, 1) := by decide +kernel
theorem d_Mo_put_14 : decode prog_7_method_9_code 14 = .ok (.aload_n 0, 1) := by decide +kernel
theorem d_Mo_put_15 : decode prog_7_method_9_code 15 = .ok (.dup, 1) := by decide +kernel
theorem d_Mo_put_16 : decode prog_7_method_9_code 16 = .ok (.getfield 61, 3) := by decide +kernel
theorem d_Mo_put_19 : decode prog_7_method_9_code 19 = .ok (.iconst 1, 1) := by decide +kernel
theorem d_Mo_put_20 : decode prog_7_method_9_code 20 = .ok (.iadd, 1) := by decide +kernel
theorem d_Mo_put_21 : decode prog_7_method_9_code 21 = .ok (.putfield 61, 3) := by decide +kernel
theorem d_Mo_put_24 : decode prog_7_method_9_code 24 = .ok (.return_, 1) := by decide +kernel
theorem d_Mo_sum_0 : decode prog_7_method_10_code 0 = .ok (.aload_n 0, 1) := by decide +kernel
theorem d_Mo_sum_1 : decode prog_7_method_10_code 1 = .ok (.aload_n 0, 1) := by decide +kernel
theorem d_Mo_sum_2 : decode prog_7_method_10_code 2 = .ok (.getfield 64, 3) := by decide +kernel
theorem d_Mo_sum_5 : decode prog_7_method_10_code 5 = .ok (.iload_n 1, 1) := by decide +kernel
theorem d_Mo_sum_6 : decode prog_7_method_10_code 6 = .ok (.iadd, 1) := by decide +kernel
theorem d_Mo_sum_7 : decode prog_7_method_10_code 7 = .ok (.ldc 67, 2) := by decide +kernel
theorem d_Mo_sum_9 : decode prog_7_method_10_code 9 = .ok (.irem, 1) := by decide +kernel
theorem d_Mo_sum_10 : decode prog_7_method_10_code 10 = .ok (.putfield 64, 3) := by decide +kernel
theorem d_Mo_sum_13 : decode prog_7_method_10_code 13 = .ok (.aload_n 0, 1) := by decide +kernel
theorem d_Mo_sum_14 : decode prog_7_method_10_code 14 = .ok (.aload_n 0, 1) := by decide +kernel
theorem d_Mo_sum_15 : decode prog_7_method_10_code 15 = .ok (.getfield 68, 3) := by decide +kernel
theorem d_Mo_sum_18 : decode prog_7_method_10_code 18 = .ok (.aload_n 0, 1) := by decide +kernel
theorem d_Mo_sum_19 : decode prog_7_method_10_code 19 = .ok (.getfield 64, 3) := by decide +kernel
theorem d_Mo_sum_22 : decode prog_7_method_10_code 22 = .ok (.iadd, 1) := by decide +kernel
theorem d_Mo_sum_23 : decode prog_7_method_10_code 23 = .ok (.ldc 67, 2) := by decide +kernel
theorem d_Mo_sum_25 : decode prog_7_method_10_code 25 = .ok (.irem, 1) := by decide +kernel
theorem d_Mo_sum_26 : decode prog_7_method_10_code 26 = .ok (.putfield 68, 3) := by decide +kernel
theorem d_Mo_sum_29 : decode prog_7_method_10_code 29 = .ok (.return_, 1) := by decide +kernel
theorem d_Mo_checkByte_0 : decode prog_7_method_11_code 0 = .ok (.iload_n 1, 1) := by decide +kernel
theorem d_Mo_checkByte_1 : decode prog_7_method_11_code 1 = .ok (.iconst 2, 1) := by decide +kernel
theorem d_Mo_checkByte_2 : decode prog_7_method_11_code 2 = .ok (.if_icmp .ge 10, 3) := by decide +kernel
theorem d_Mo_checkByte_5 : decode prog_7_method_11_code 5 = .ok (.aload_n 0, 1) := by decide +kernel
theorem d_Mo_checkByte_6 : decode prog_7_method_11_code 6 = .ok (.getfield 68, 3) := by decide +kernel
theorem d_Mo_checkByte_9 : decode prog_7_method_11_code 9 = .ok (.goto 7, 3) := by decide +kernel
theorem d_Mo_checkByte_12 : decode prog_7_method_11_code 12 = .ok (.aload_n 0, 1) := by decide +kernel
theorem d_Mo_checkByte_13 : decode prog_7_method_11_code 13 = .ok (.getfield 64, 3) := by decide +kernel
theorem d_Mo_checkByte_16 : decode prog_7_method_11_code 16 = .ok (.istore_n 2, 1) := by decide +kernel
theorem d_Mo_checkByte_17 : decode prog_7_method_11_code 17 = .ok (.iload_n 1, 1) := by decide +kernel
theorem d_Mo_checkByte_18 : decode prog_7_method_11_code 18 = .ok (.iconst 2, 1) := by decide +kernel
theorem d_Mo_checkByte_19 : decode prog_7_method_11_code 19 = .ok (.irem, 1) := by decide +kernel
theorem d_Mo_checkByte_20 : decode prog_7_method_11_code 20 = .ok (.ifCond .ne 11, 3) := by decide +kernel
theorem d_Mo_checkByte_23 : decode prog_7_method_11_code 23 = .ok (.iload_n 2, 1) := by decide +kernel
theorem d_Mo_checkByte_24 : decode prog_7_method_11_code 24 = .ok (.sipush 256, 3) := by decide +kernel
theorem d_Mo_checkByte_27 : decode prog_7_method_11_code 27 = .ok (.idiv, 1) := by decide +kernel
theorem d_Mo_checkByte_28 : decode prog_7_method_11_code 28 = .ok (.goto 8, 3) := by decide +kernel
theorem d_Mo_checkByte_31 : decode prog_7_method_11_code 31 = .ok (.iload_n 2, 1) := by decide +kernel
theorem d_Mo_checkByte_32 : decode prog_7_method_11_code 32 = .ok (.sipush 256, 3) := by decide +kernel
theorem d_Mo_checkByte_35 : decode prog_7_method_11_code 35 = .ok (.irem, 1) := by decide +kernel
theorem d_Mo_checkByte_36 : decode prog_7_method_11_code 36 = .ok (.ireturn, 1) := by decide +kernel
theorem d_Mo_write_0 : decode prog_7_method_12_code 0 = .ok (.aload_n 0, 1) := by decide +kernel
theorem d_Mo_write_1 : decode prog_7_method_12_code 1 = .ok (.iconst 0, 1) := by decide +kernel
theorem d_Mo_write_2 : decode prog_7_method_12_code 2 = .ok (.putfield 51, 3) := by decide +kernel
theorem d_Mo_write_5 : decode prog_7_method_12_code 5 = .ok (.aload_n 0, 1) := by decide +kernel
theorem d_Mo_write_6 : decode prog_7_method_12_code 6 = .ok (.iconst 0, 1) := by decide +kernel
theorem d_Mo_write_7 : decode prog_7_method_12_code 7 = .ok (.putfield 61, 3) := by decide +kernel
theorem d_Mo_write_10 : decode prog_7_method_12_code 10 = .ok (.aload_n 0, 1) := by decide +kernel
theorem d_Mo_write_11 : decode prog_7_method_12_code 11 = .ok (.bipush 77, 2) := by decide +kernel
theorem d_Mo_write_13 : decode prog_7_method_12_code 13 = .ok (.invokevirtual 71, 3) := by decide +kernel
theorem d_Mo_write_16 : decode prog_7_method_12_code 16 = .ok (.aload_n 0, 1) := by decide +kernel
theorem d_Mo_write_17 : decode prog_7_method_12_code 17 = .ok (.bipush 68, 2) := by decide +kernel
theorem d_Mo_write_19 : decode prog_7_method_12_code 19 = .ok (.invokevirtual 71, 3) := by decide +kernel
theorem d_Mo_write_22 : decode prog_7_method_12_code 22 = .ok (.aload_n 0, 1) := by decide +kernel
theorem d_Mo_write_23 : decode prog_7_method_12_code 23 = .ok (.iconst 1, 1) := by decide +kernel
theorem d_Mo_write_24 : decode prog_7_method_12_code 24 = .ok (.invokevirtual 71, 3) := by decide +kernel
theorem d_Mo_write_27 : decode prog_7_method_12_code 27 = .ok (.iconst 0, 1) := by decide +kernel
theorem d_Mo_write_28 : decode prog_7_method_12_code 28 = .ok (.istore_n 1, 1) := by decide +kernel
theorem d_Mo_write_29 : decode prog_7_method_12_code 29 = .ok (.iload_n 1, 1) := by decide +kernel
theorem d_Mo_write_30 : decode prog_7_method_12_code 30 = .ok (.iconst 2, 1) := by decide +kernel
theorem d_Mo_write_31 : decode prog_7_method_12_code 31 = .ok (.if_icmp .ge 32, 3) := by decide +kernel
theorem d_Mo_write_34 : decode prog_7_method_12_code 34 = .ok (.aload_n 0, 1) := by decide +kernel
theorem d_Mo_write_35 : decode prog_7_method_12_code 35 = .ok (.aload_n 0, 1) := by decide +kernel
theorem d_Mo_write_36 : decode prog_7_method_12_code 36 = .ok (.getfield 7, 3) := by decide +kernel
theorem d_Mo_write_39 : decode prog_7_method_12_code 39 = .ok (.iload_n 1, 1) := by decide +kernel
theorem d_Mo_write_40 : decode prog_7_method_12_code 40 = .ok (.iaload, 1) := by decide +kernel
theorem d_Mo_write_41 : decode prog_7_method_12_code 41 = .ok (.bipush 8, 2) := by decide +kernel
theorem d_Mo_write_43 : decode prog_7_method_12_code 43 = .ok (.ishr, 1) := by decide +kernel
theorem d_Mo_write_44 : decode prog_7_method_12_code 44 = .ok (.invokevirtual 71, 3) := by decide +kernel
theorem d_Mo_write_47 : decode prog_7_method_12_code 47 = .ok (.aload_n 0, 1) := by decide +kernel
theorem d_Mo_write_48 : decode prog_7_method_12_code 48 = .ok (.aload_n 0, 1) := by decide +kernel
theorem d_Mo_write_49 : decode prog_7_method_12_code 49 = .ok (.getfield 7, 3) := by decide +kernel
theorem d_Mo_write_52 : decode prog_7_method_12_code 52 = .ok (.iload_n 1, 1) := by decide +kernel
theorem d_Mo_write_53 : decode prog_7_method_12_code 53 = .ok (.iaload, 1) := by decide +kernel
theorem d_Mo_write_54 : decode prog_7_method_12_code 54 = .ok (.invokevirtual 71, 3) := by decide +kernel
theorem d_Mo_write_57 : decode prog_7_method_12_code 57 = .ok (.iinc 1 1, 3) := by decide +kernel
theorem d_Mo_write_60 : decode prog_7_method_12_code 60 = .ok (.goto (-31), 3) := by decide +kernel
theorem d_Mo_write_63 : decode prog_7_method_12_code 63 = .ok (.aload_n 0, 1) := by decide +kernel
theorem d_Mo_write_64 : decode prog_7_method_12_code 64 = .ok (.aload_n 0, 1) := by decide +kernel
theorem d_Mo_write_65 : decode prog_7_method_12_code 65 = .ok (.getfield 7, 3) := by decide +kernel
theorem d_Mo_write_68 : decode prog_7_method_12_code 68 = .ok (.iconst 2, 1) := by decide +kernel
theorem d_Mo_write_69 : decode prog_7_method_12_code 69 = .ok (.iaload, 1) := by decide +kernel
theorem d_Mo_write_70 : decode prog_7_method_12_code 70 = .ok (.invokevirtual 71, 3) := by decide +kernel
theorem d_Mo_write_73 : decode prog_7_method_12_code 73 = .ok (.aload_n 0, 1) := by decide +kernel
theorem d_Mo_write_74 : decode prog_7_method_12_code 74 = .ok (.aload_n 0, 1) := by decide +kernel
theorem d_Mo_write_75 : decode prog_7_method_12_code 75 = .ok (.getfield 7, 3) := by decide +kernel
theorem d_Mo_write_78 : decode prog_7_method_12_code 78 = .ok (.iconst 3, 1) := by decide +kernel
theorem d_Mo_write_79 : decode prog_7_method_12_code 79 = .ok (.iaload, 1) := by decide +kernel
theorem d_Mo_write_80 : decode prog_7_method_12_code 80 = .ok (.invokevirtual 71, 3) := by decide +kernel
theorem d_Mo_write_83 : decode prog_7_method_12_code 83 = .ok (.iconst 0, 1) := by decide +kernel
theorem d_Mo_write_84 : decode prog_7_method_12_code 84 = .ok (.istore_n 1, 1) := by decide +kernel
theorem d_Mo_write_85 : decode prog_7_method_12_code 85 = .ok (.iload_n 1, 1) := by decide +kernel
theorem d_Mo_write_86 : decode prog_7_method_12_code 86 = .ok (.aload_n 0, 1) := by decide +kernel
theorem d_Mo_write_87 : decode prog_7_method_12_code 87 = .ok (.getfield 58, 3) := by decide +kernel
theorem d_Mo_write_90 : decode prog_7_method_12_code 90 = .ok (.if_icmp .ge 116, 3) := by decide +kernel
theorem d_Mo_write_93 : decode prog_7_method_12_code 93 = .ok (.aload_n 0, 1) := by decide +kernel
theorem d_Mo_write_94 : decode prog_7_method_12_code 94 = .ok (.iload_n 1, 1) := by decide +kernel
theorem d_Mo_write_95 : decode prog_7_method_12_code 95 = .ok (.invokevirtual 75, 3) := by decide +kernel
theorem d_Mo_write_98 : decode prog_7_method_12_code 98 = .ok (.istore_n 2, 1) := by decide +kernel
theorem d_Mo_write_99 : decode prog_7_method_12_code 99 = .ok (.aload_n 0, 1) := by decide +kernel
theorem d_Mo_write_100 : decode prog_7_method_12_code 100 = .ok (.getfield 16, 3) := by decide +kernel
theorem d_Mo_write_103 : decode prog_7_method_12_code 103 = .ok (.iload_n 1, 1) := by decide +kernel
theorem d_Mo_write_104 : decode prog_7_method_12_code 104 = .ok (.iaload, 1) := by decide +kernel
theorem d_Mo_write_105 : decode prog_7_method_12_code 105 = .ok (.ifCond .ne 12, 3) := by decide +kernel
theorem d_Mo_write_108 : decode prog_7_method_12_code 108 = .ok (.aload_n 0, 1) := by decide +kernel
theorem d_Mo_write_109 : decode prog_7_method_12_code 109 = .ok (.getfield 19, 3) := by decide +kernel
theorem d_Mo_write_112 : decode prog_7_method_12_code 112 = .ok (.iload_n 1, 1) := by decide +kernel
theorem d_Mo_write_113 : decode prog_7_method_12_code 113 = .ok (.iaload, 1) := by decide +kernel
theorem d_Mo_write_114 : decode prog_7_method_12_code 114 = .ok (.ifCond .eq 7, 3) := by decide +kernel
theorem d_Mo_write_117 : decode prog_7_method_12_code 117 = .ok (.iconst 1, 1) := by decide +kernel
theorem d_Mo_write_118 : decode prog_7_method_12_code 118 = .ok (.goto 4, 3) := by decide +kernel
theorem d_Mo_write_121 : decode prog_7_method_12_code 121 = .ok (.iconst 0, 1) := by decide +kernel
theorem d_Mo_write_122 : decode prog_7_method_12_code 122 = .ok (.istore_n 3, 1) := by decide +kernel
theorem d_Mo_write_123 : decode prog_7_method_12_code 123 = .ok (.aload_n 0, 1) := by decide +kernel
theorem d_Mo_write_124 : decode prog_7_method_12_code 124 = .ok (.iload_n 2, 1) := by decide +kernel
theorem d_Mo_write_125 : decode prog_7_method_12_code 125 = .ok (.aload_n 0, 1) := by decide +kernel
theorem d_Mo_write_126 : decode prog_7_method_12_code 126 = .ok (.getfield 22, 3) := by decide +kernel
theorem d_Mo_write_129 : decode prog_7_method_12_code 129 = .ok (.iload_n 1, 1) := by decide +kernel
theorem d_Mo_write_130 : decode prog_7_method_12_code 130 = .ok (.baload, 1) := by decide +kernel
theorem d_Mo_write_131 : decode prog_7_method_12_code 131 = .ok (.ifCond .eq 8, 3) := by decide +kernel
theorem d_Mo_write_134 : decode prog_7_method_12_code 134 = .ok (.bipush 64, 2) := by decide +kernel
theorem d_Mo_write_136 : decode prog_7_method_12_code 136 = .ok (.goto 4, 3) := by decide +kernel
theorem d_Mo_write_139 : decode prog_7_method_12_code 139 = .ok (.iconst 0, 1) := by decide +kernel
theorem d_Mo_write_140 : decode prog_7_method_12_code 140 = .ok (.iadd, 1) := by decide +kernel
theorem d_Mo_write_141 : decode prog_7_method_12_code 141 = .ok (.iload_n 3, 1) := by decide +kernel
theorem d_Mo_write_142 : decode prog_7_method_12_code 142 = .ok (.ifCond .eq 9, 3) := by decide +kernel
theorem d_Mo_write_145 : decode prog_7_method_12_code 145 = .ok (.sipush 128, 3) := by decide +kernel
theorem d_Mo_write_148 : decode prog_7_method_12_code 148 = .ok (.goto 4, 3) := by decide +kernel
theorem d_Mo_write_151 : decode prog_7_method_12_code 151 = .ok (.iconst 0, 1) := by decide +kernel
theorem d_Mo_write_152 : decode prog_7_method_12_code 152 = .ok (.iadd, 1) := by decide +kernel
theorem d_Mo_write_153 : decode prog_7_method_12_code 153 = .ok (.invokevirtual 71, 3) := by decide +kernel
theorem d_Mo_write_156 : decode prog_7_method_12_code 156 = .ok (.aload_n 0, 1) := by decide +kernel
theorem d_Mo_write_157 : decode prog_7_method_12_code 157 = .ok (.aload_n 0, 1) := by decide +kernel
theorem d_Mo_write_158 : decode prog_7_method_12_code 158 = .ok (.getfield 13, 3) := by decide +kernel
theorem d_Mo_write_161 : decode prog_7_method_12_code 161 = .ok (.iload_n 1, 1) := by decide +kernel
theorem d_Mo_write_162 : decode prog_7_method_12_code 162 = .ok (.iaload, 1) := by decide +kernel
theorem d_Mo_write_163 : decode prog_7_method_12_code 163 = .ok (.bipush 64, 2) := by decide +kernel
theorem d_Mo_write_165 : decode prog_7_method_12_code 165 = .ok (.iadd, 1) := by decide +kernel
theorem d_Mo_write_166 : decode prog_7_method_12_code 166 = .ok (.invokevirtual 71, 3) := by decide +kernel
theorem d_Mo_write_169 : decode prog_7_method_12_code 169 = .ok (.iload_n 3, 1) := by decide +kernel
theorem d_Mo_write_170 : decode prog_7_method_12_code 170 = .ok (.ifCond .eq 29, 3) := by decide +kernel
theorem d_Mo_write_173 : decode prog_7_method_12_code 173 = .ok (.aload_n 0, 1) := by decide +kernel
theorem d_Mo_write_174 : decode prog_7_method_12_code 174 = .ok (.aload_n 0, 1) := by decide +kernel
theorem d_Mo_write_175 : decode prog_7_method_12_code 175 = .ok (.getfield 16, 3) := by decide +kernel
theorem d_Mo_write_178 : decode prog_7_method_12_code 178 = .ok (.iload_n 1, 1) := by decide +kernel
theorem d_Mo_write_179 : decode prog_7_method_12_code 179 = .ok (.iaload, 1) := by decide +kernel
theorem d_Mo_write_180 : decode prog_7_method_12_code 180 = .ok (.bipush 64, 2) := by decide +kernel
theorem d_Mo_write_182 : decode prog_7_method_12_code 182 = .ok (.iadd, 1) := by decide +kernel
theorem d_Mo_write_183 : decode prog_7_method_12_code 183 = .ok (.invokevirtual 71, 3) := by decide +kernel
theorem d_Mo_write_186 : decode prog_7_method_12_code 186 = .ok (.aload_n 0, 1) := by decide +kernel
theorem d_Mo_write_187 : decode prog_7_method_12_code 187 = .ok (.aload_n 0, 1) := by decide +kernel
theorem d_Mo_write_188 : decode prog_7_method_12_code 188 = .ok (.getfield 19, 3) := by decide +kernel
theorem d_Mo_write_191 : decode prog_7_method_12_code 191 = .ok (.iload_n 1, 1) := by decide +kernel
theorem d_Mo_write_192 : decode prog_7_method_12_code 192 = .ok (.iaload, 1) := by decide +kernel
theorem d_Mo_write_193 : decode prog_7_method_12_code 193 = .ok (.bipush 16, 2) := by decide +kernel
theorem d_Mo_write_195 : decode prog_7_method_12_code 195 = .ok (.iadd, 1) := by decide +kernel
theorem d_Mo_write_196 : decode prog_7_method_12_code 196 = .ok (.invokevirtual 71, 3) := by decide +kernel
theorem d_Mo_write_199 : decode prog_7_method_12_code 199 = .ok (.iload_n 1, 1) := by decide +kernel
theorem d_Mo_write_200 : decode prog_7_method_12_code 200 = .ok (.iload_n 2, 1) := by decide +kernel
theorem d_Mo_write_201 : decode prog_7_method_12_code 201 = .ok (.iadd, 1) := by decide +kernel
theorem d_Mo_write_202 : decode prog_7_method_12_code 202 = .ok (.istore_n 1, 1) := by decide +kernel
theorem d_Mo_write_203 : decode prog_7_method_12_code 203 = .ok (.goto (-118), 3) := by decide +kernel
theorem d_Mo_write_206 : decode prog_7_method_12_code 206 = .ok (.aload_n 0, 1) := by decide +kernel
theorem d_Mo_write_207 : decode prog_7_method_12_code 207 = .ok (.iconst 0, 1) := by decide +kernel
theorem d_Mo_write_208 : decode prog_7_method_12_code 208 = .ok (.invokevirtual 71, 3) := by decide +kernel
theorem d_Mo_write_211 : decode prog_7_method_12_code 211 = .ok (.aload_n 0, 1) := by decide +kernel
theorem d_Mo_write_212 : decode prog_7_method_12_code 212 = .ok (.iconst 1, 1) := by decide +kernel
theorem d_Mo_write_213 : decode prog_7_method_12_code 213 = .ok (.putfield 64, 3) := by decide +kernel
theorem d_Mo_write_216 : decode prog_7_method_12_code 216 = .ok (.aload_n 0, 1) := by decide +kernel
theorem d_Mo_write_217 : decode prog_7_method_12_code 217 = .ok (.iconst 0, 1) := by decide +kernel
theorem d_Mo_write_218 : decode prog_7_method_12_code 218 = .ok (.putfield 68, 3) := by decide +kernel
theorem d_Mo_write_221 : decode prog_7_method_12_code 221 = .ok (.iconst 0, 1) := by decide +kernel
theorem d_Mo_write_222 : decode prog_7_method_12_code 222 = .ok (.istore_n 2, 1) := by decide +kernel
theorem d_Mo_write_223 : decode prog_7_method_12_code 223 = .ok (.iload_n 2, 1) := by decide +kernel
theorem d_Mo_write_224 : decode prog_7_method_12_code 224 = .ok (.aload_n 0, 1) := by decide +kernel
theorem d_Mo_write_225 : decode prog_7_method_12_code 225 = .ok (.getfield 61, 3) := by decide +kernel
theorem d_Mo_write_228 : decode prog_7_method_12_code 228 = .ok (.if_icmp .ge 19, 3) := by decide +kernel
theorem d_Mo_write_231 : decode prog_7_method_12_code 231 = .ok (.aload_n 0, 1) := by decide +kernel
theorem d_Mo_write_232 : decode prog_7_method_12_code 232 = .ok (.aload_n 0, 1) := by decide +kernel
theorem d_Mo_write_233 : decode prog_7_method_12_code 233 = .ok (.getfield 26, 3) := by decide +kernel
theorem d_Mo_write_236 : decode prog_7_method_12_code 236 = .ok (.iload_n 2, 1) := by decide +kernel
theorem d_Mo_write_237 : decode prog_7_method_12_code 237 = .ok (.iaload, 1) := by decide +kernel
theorem d_Mo_write_238 : decode prog_7_method_12_code 238 = .ok (.invokevirtual 79, 3) := by decide +kernel
theorem d_Mo_write_241 : decode prog_7_method_12_code 241 = .ok (.iinc 2 1, 3) := by decide +kernel
theorem d_Mo_write_244 : decode prog_7_method_12_code 244 = .ok (.goto (-21), 3) := by decide +kernel
theorem d_Mo_write_247 : decode prog_7_method_12_code 247 = .ok (.iconst 0, 1) := by decide +kernel
theorem d_Mo_write_248 : decode prog_7_method_12_code 248 = .ok (.istore_n 2, 1) := by decide +kernel
theorem d_Mo_write_249 : decode prog_7_method_12_code 249 = .ok (.iload_n 2, 1) := by decide +kernel
theorem d_Mo_write_250 : decode prog_7_method_12_code 250 = .ok (.iconst 4, 1) := by decide +kernel
theorem d_Mo_write_251 : decode prog_7_method_12_code 251 = .ok (.if_icmp .ge 18, 3) := by decide +kernel
theorem d_Mo_write_254 : decode prog_7_method_12_code 254 = .ok (.aload_n 0, 1) := by decide +kernel
theorem d_Mo_write_255 : decode prog_7_method_12_code 255 = .ok (.aload_n 0, 1) := by decide +kernel
theorem d_Mo_write_256 : decode prog_7_method_12_code 256 = .ok (.iload_n 2, 1) := by decide +kernel
theorem d_Mo_write_257 : decode prog_7_method_12_code 257 = .ok (.invokevirtual 82, 3) := by decide +kernel
theorem d_Mo_write_260 : decode prog_7_method_12_code 260 = .ok (.invokevirtual 71, 3) := by decide +kernel
theorem d_Mo_write_263 : decode prog_7_method_12_code 263 = .ok (.iinc 2 1, 3) := by decide +kernel
theorem d_Mo_write_266 : decode prog_7_method_12_code 266 = .ok (.goto (-17), 3) := by decide +kernel
theorem d_Mo_write_269 : decode prog_7_method_12_code 269 = .ok (.aload_n 0, 1) := by decide +kernel
theorem d_Mo_write_270 : decode prog_7_method_12_code 270 = .ok (.getfield 61, 3) := by decide +kernel
theorem d_Mo_write_273 : decode prog_7_method_12_code 273 = .ok (.ireturn, 1) := by decide +kernel
