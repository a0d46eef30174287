theorem d_Mo_isIn_0 : decode prog_7_method_3_code 0 = .ok (.iload_n 0, 1) := by decide +kernel
theorem d_Mo_isIn_1 : decode prog_7_method_3_code 1 = .ok (.iload_n 1, 1) := by decide +kernel
theorem d_Mo_isIn_2 : decode prog_7_method_3_code 2 = .ok (.ineg, 1) := by decide +kernel
theorem d_Mo_isIn_3 : decode prog_7_method_3_code 3 = .ok (.if_icmp .lt 12, 3) := by decide +kernel
theorem d_Mo_isIn_6 : decode prog_7_method_3_code 6 = .ok (.iload_n 0, 1) := by decide +kernel
theorem d_Mo_isIn_7 : decode prog_7_method_3_code 7 = .ok (.iload_n 1, 1) := by decide +kernel
theorem d_Mo_isIn_8 : decode prog_7_method_3_code 8 = .ok (.if_icmp .gt 7, 3) := by decide +kernel
theorem d_Mo_isIn_11 : decode prog_7_method_3_code 11 = .ok (.iconst 1, 1) := by decide +kernel
theorem d_Mo_isIn_12 : decode prog_7_method_3_code 12 = .ok (.goto 4, 3) := by decide +kernel
theorem d_Mo_isIn_15 : decode prog_7_method_3_code 15 = .ok (.iconst 0, 1) := by decide +kernel
theorem d_Mo_isIn_16 : decode prog_7_method_3_code 16 = .ok (.ireturn, 1) := by decide +kernel
theorem d_Mo_start_0 : decode prog_7_method_4_code 0 = .ok (.aload_n 0, 1) := by decide +kernel
theorem d_Mo_start_1 : decode prog_7_method_4_code 1 = .ok (.iconst 0, 1) := by decide +kernel
theorem d_Mo_start_2 : decode prog_7_method_4_code 2 = .ok (.putfield 51, 3) := by decide +kernel
theorem d_Mo_start_5 : decode prog_7_method_4_code 5 = .ok (.iload_n 1, 1) := by decide +kernel
theorem d_Mo_start_6 : decode prog_7_method_4_code 6 = .ok (.sipush (-32768), 3) := by decide +kernel
theorem d_Mo_start_9 : decode prog_7_method_4_code 9 = .ok (.if_icmp .lt 47, 3) := by decide +kernel
theorem d_Mo_start_12 : decode prog_7_method_4_code 12 = .ok (.iload_n 1, 1) := by decide +kernel
theorem d_Mo_start_13 : decode prog_7_method_4_code 13 = .ok (.sipush 32767, 3) := by decide +kernel
theorem d_Mo_start_16 : decode prog_7_method_4_code 16 = .ok (.if_icmp .gt 40, 3) := by decide +kernel
theorem d_Mo_start_19 : decode prog_7_method_4_code 19 = .ok (.iload_n 2, 1) := by decide +kernel
theorem d_Mo_start_20 : decode prog_7_method_4_code 20 = .ok (.sipush (-32768), 3) := by decide +kernel
theorem d_Mo_start_23 : decode prog_7_method_4_code 23 = .ok (.if_icmp .lt 33, 3) := by decide +kernel
theorem d_Mo_start_26 : decode prog_7_method_4_code 26 = .ok (.iload_n 2, 1) := by decide +kernel
theorem d_Mo_start_27 : decode prog_7_method_4_code 27 = .ok (.sipush 32767, 3) := by decide +kernel
theorem d_Mo_start_30 : decode prog_7_method_4_code 30 = .ok (.if_icmp .gt 26, 3) := by decide +kernel
theorem d_Mo_start_33 : decode prog_7_method_4_code 33 = .ok (.iload_n 3, 1) := by decide +kernel
theorem d_Mo_start_34 : decode prog_7_method_4_code 34 = .ok (.ifCond .lt 22, 3) := by decide +kernel
theorem d_Mo_start_37 : decode prog_7_method_4_code 37 = .ok (.iload_n 3, 1) := by decide +kernel
theorem d_Mo_start_38 : decode prog_7_method_4_code 38 = .ok (.bipush 63, 2) := by decide +kernel
theorem d_Mo_start_40 : decode prog_7_method_4_code 40 = .ok (.if_icmp .gt 16, 3) := by decide +kernel
theorem d_Mo_start_43 : decode prog_7_method_4_code 43 = .ok (.iload 4, 2) := by decide +kernel
theorem d_Mo_start_45 : decode prog_7_method_4_code 45 = .ok (.ifCond .lt 11, 3) := by decide +kernel
theorem d_Mo_start_48 : decode prog_7_method_4_code 48 = .ok (.iload 4, 2) := by decide +kernel
theorem d_Mo_start_50 : decode prog_7_method_4_code 50 = .ok (.sipush 255, 3) := by decide +kernel
theorem d_Mo_start_53 : decode prog_7_method_4_code 53 = .ok (.if_icmp .le 5, 3) := by decide +kernel
theorem d_Mo_start_56 : decode prog_7_method_4_code 56 = .ok (.iconst 0, 1) := by decide +kernel
theorem d_Mo_start_57 : decode prog_7_method_4_code 57 = .ok (.ireturn, 1) := by decide +kernel
theorem d_Mo_start_58 : decode prog_7_method_4_code 58 = .ok (.aload_n 0, 1) := by decide +kernel
theorem d_Mo_start_59 : decode prog_7_method_4_code 59 = .ok (.getfield 7, 3) := by decide +kernel
theorem d_Mo_start_62 : decode prog_7_method_4_code 62 = .ok (.iconst 0, 1) := by decide +kernel
theorem d_Mo_start_63 : decode prog_7_method_4_code 63 = .ok (.iload_n 1, 1) := by decide +kernel
theorem d_Mo_start_64 : decode prog_7_method_4_code 64 = .ok (.iastore, 1) := by decide +kernel
theorem d_Mo_start_65 : decode prog_7_method_4_code 65 = .ok (.aload_n 0, 1) := by decide +kernel
theorem d_Mo_start_66 : decode prog_7_method_4_code 66 = .ok (.getfield 7, 3) := by decide +kernel
theorem d_Mo_start_69 : decode prog_7_method_4_code 69 = .ok (.iconst 1, 1) := by decide +kernel
theorem d_Mo_start_70 : decode prog_7_method_4_code 70 = .ok (.iload_n 2, 1) := by decide +kernel
theorem d_Mo_start_71 : decode prog_7_method_4_code 71 = .ok (.iastore, 1) := by decide +kernel
theorem d_Mo_start_72 : decode prog_7_method_4_code 72 = .ok (.aload_n 0, 1) := by decide +kernel
theorem d_Mo_start_73 : decode prog_7_method_4_code 73 = .ok (.getfield 7, 3) := by decide +kernel
theorem d_Mo_start_76 : decode prog_7_method_4_code 76 = .ok (.iconst 2, 1) := by decide +kernel
theorem d_Mo_start_77 : decode prog_7_method_4_code 77 = .ok (.iload_n 3, 1) := by decide +kernel
theorem d_Mo_start_78 : decode prog_7_method_4_code 78 = .ok (.iastore, 1) := by decide +kernel
theorem d_Mo_start_79 : decode prog_7_method_4_code 79 = .ok (.aload_n 0, 1) := by decide +kernel
theorem d_Mo_start_80 : decode prog_7_method_4_code 80 = .ok (.getfield 7, 3) := by decide +kernel
theorem d_Mo_start_83 : decode prog_7_method_4_code 83 = .ok (.iconst 3, 1) := by decide +kernel
theorem d_Mo_start_84 : decode prog_7_method_4_code 84 = .ok (.iload 4, 2) := by decide +kernel
theorem d_Mo_start_86 : decode prog_7_method_4_code 86 = .ok (.iastore, 1) := by decide +kernel
theorem d_Mo_start_87 : decode prog_7_method_4_code 87 = .ok (.iconst 1, 1) := by decide +kernel
theorem d_Mo_start_88 : decode prog_7_method_4_code 88 = .ok (.ireturn, 1) := by decide +kernel
theorem d_Mo_record_0 : decode prog_7_method_5_code 0 = .ok (.aload_n 0, 1) := by decide +kernel
theorem d_Mo_record_1 : decode prog_7_method_5_code 1 = .ok (.iconst 0, 1) := by decide +kernel
theorem d_Mo_record_2 : decode prog_7_method_5_code 2 = .ok (.putfield 51, 3) := by decide +kernel
theorem d_Mo_record_5 : decode prog_7_method_5_code 5 = .ok (.iload_n 1, 1) := by decide +kernel
theorem d_Mo_record_6 : decode prog_7_method_5_code 6 = .ok (.bipush 64, 2) := by decide +kernel
theorem d_Mo_record_8 : decode prog_7_method_5_code 8 = .ok (.invokestatic 54, 3) := by decide +kernel
theorem d_Mo_record_11 : decode prog_7_method_5_code 11 = .ok (.ifCond .eq 48, 3) := by decide +kernel
theorem d_Mo_record_14 : decode prog_7_method_5_code 14 = .ok (.iload_n 2, 1) := by decide +kernel
theorem d_Mo_record_15 : decode prog_7_method_5_code 15 = .ok (.bipush 64, 2) := by decide +kernel
theorem d_Mo_record_17 : decode prog_7_method_5_code 17 = .ok (.invokestatic 54, 3) := by decide +kernel
theorem d_Mo_record_20 : decode prog_7_method_5_code 20 = .ok (.ifCond .eq 39, 3) := by decide +kernel
theorem d_Mo_record_23 : decode prog_7_method_5_code 23 = .ok (.iload_n 3, 1) := by decide +kernel
theorem d_Mo_record_24 : decode prog_7_method_5_code 24 = .ok (.bipush 16, 2) := by decide +kernel
theorem d_Mo_record_26 : decode prog_7_method_5_code 26 = .ok (.invokestatic 54, 3) := by decide +kernel
theorem d_Mo_record_29 : decode prog_7_method_5_code 29 = .ok (.ifCond .eq 30, 3) := by decide +kernel
theorem d_Mo_record_32 : decode prog_7_method_5_code 32 = .ok (.iload 5, 2) := by decide +kernel
theorem d_Mo_record_34 : decode prog_7_method_5_code 34 = .ok (.iconst 1, 1) := by decide +kernel
theorem d_Mo_record_35 : decode prog_7_method_5_code 35 = .ok (.if_icmp .lt 24, 3) := by decide +kernel
theorem d_Mo_record_38 : decode prog_7_method_5_code 38 = .ok (.iload 5, 2) := by decide +kernel
theorem d_Mo_record_40 : decode prog_7_method_5_code 40 = .ok (.sipush 1024, 3) := by decide +kernel
theorem d_Mo_record_43 : decode prog_7_method_5_code 43 = .ok (.if_icmp .gt 16, 3) := by decide +kernel
theorem d_Mo_record_46 : decode prog_7_method_5_code 46 = .ok (.aload_n 0, 1) := by decide +kernel
theorem d_Mo_record_47 : decode prog_7_method_5_code 47 = .ok (.getfield 58, 3) := by decide +kernel
theorem d_Mo_record_50 : decode prog_7_method_5_code 50 = .ok (.iload 5, 2) := by decide +kernel
theorem d_Mo_record_52 : decode prog_7_method_5_code 52 = .ok (.iadd, 1) := by decide +kernel
theorem d_Mo_record_53 : decode prog_7_method_5_code 53 = .ok (.sipush 1024, 3) := by decide +kernel
theorem d_Mo_record_56 : decode prog_7_method_5_code 56 = .ok (.if_icmp .le 5, 3) := by decide +kernel
theorem d_Mo_record_59 : decode prog_7_method_5_code 59 = .ok (.iconst (-1), 1) := by decide +kernel
theorem d_Mo_record_60 : decode prog_7_method_5_code 60 = .ok (.ireturn, 1) := by decide +kernel
theorem d_Mo_record_61 : decode prog_7_method_5_code 61 = .ok (.iconst 0, 1) := by decide +kernel
theorem d_Mo_record_62 : decode prog_7_method_5_code 62 = .ok (.istore 6, 2) := by decide +kernel
theorem d_Mo_record_64 : decode prog_7_method_5_code 64 = .ok (.iload 6, 2) := by decide +kernel
theorem d_Mo_record_66 : decode prog_7_method_5_code 66 = .ok (.iload 5, 2) := by decide +kernel
theorem d_Mo_record_68 : decode prog_7_method_5_code 68 = .ok (.if_icmp .ge 60, 3) := by decide +kernel
theorem d_Mo_record_71 : decode prog_7_method_5_code 71 = .ok (.aload_n 0, 1) := by decide +kernel
theorem d_Mo_record_72 : decode prog_7_method_5_code 72 = .ok (.getfield 13, 3) := by decide +kernel
theorem d_Mo_record_75 : decode prog_7_method_5_code 75 = .ok (.aload_n 0, 1) := by decide +kernel
theorem d_Mo_record_76 : decode prog_7_method_5_code 76 = .ok (.getfield 58, 3) := by decide +kernel
theorem d_Mo_record_79 : decode prog_7_method_5_code 79 = .ok (.iload_n 1, 1) := by decide +kernel
theorem d_Mo_record_80 : decode prog_7_method_5_code 80 = .ok (.iastore, 1) := by decide +kernel
theorem d_Mo_record_81 : decode prog_7_method_5_code 81 = .ok (.aload_n 0, 1) := by decide +kernel
theorem d_Mo_record_82 : decode prog_7_method_5_code 82 = .ok (.getfield 16, 3) := by decide +kernel
theorem d_Mo_record_85 : decode prog_7_method_5_code 85 = .ok (.aload_n 0, 1) := by decide +kernel
theorem d_Mo_record_86 : decode prog_7_method_5_code 86 = .ok (.getfield 58, 3) := by decide +kernel
theorem d_Mo_record_89 : decode prog_7_method_5_code 89 = .ok (.iload_n 2, 1) := by decide +kernel
theorem d_Mo_record_90 : decode prog_7_method_5_code 90 = .ok (.iastore, 1) := by decide +kernel
theorem d_Mo_record_91 : decode prog_7_method_5_code 91 = .ok (.aload_n 0, 1) := by decide +kernel
theorem d_Mo_record_92 : decode prog_7_method_5_code 92 = .ok (.getfield 19, 3) := by decide +kernel
theorem d_Mo_record_95 : decode prog_7_method_5_code 95 = .ok (.aload_n 0, 1) := by decide +kernel
theorem d_Mo_record_96 : decode prog_7_method_5_code 96 = .ok (.getfield 58, 3) := by decide +kernel
theorem d_Mo_record_99 : decode prog_7_method_5_code 99 = .ok (.iload_n 3, 1) := by decide +kernel
theorem d_Mo_record_100 : decode prog_7_method_5_code 100 = .ok (.iastore, 1) := by decide +kernel
theorem d_Mo_record_101 : decode prog_7_method_5_code 101 = .ok (.aload_n 0, 1) := by decide +kernel
theorem d_Mo_record_102 : decode prog_7_method_5_code 102 = .ok (.getfield 22, 3) := by decide +kernel
theorem d_Mo_record_105 : decode prog_7_method_5_code 105 = .ok (.aload_n 0, 1) := by decide +kernel
theorem d_Mo_record_106 : decode prog_7_method_5_code 106 = .ok (.getfield 58, 3) := by decide +kernel
theorem d_Mo_record_109 : decode prog_7_method_5_code 109 = .ok (.iload 4, 2) := by decide +kernel
theorem d_Mo_record_111 : decode prog_7_method_5_code 111 = .ok (.bastore, 1) := by decide +kernel
theorem d_Mo_record_112 : decode prog_7_method_5_code 112 = .ok (.aload_n 0, 1) := by decide +kernel
theorem d_Mo_record_113 : decode prog_7_method_5_code 113 = .ok (.dup, 1) := by decide +kernel
theorem d_Mo_record_114 : decode prog_7_method_5_code 114 = .ok (.getfield 58, 3) := by decide +kernel
theorem d_Mo_record_117 : decode prog_7_method_5_code 117 = .ok (.iconst 1, 1) := by decide +kernel
theorem d_Mo_record_118 : decode prog_7_method_5_code 118 = .ok (.iadd, 1) := by decide +kernel
theorem d_Mo_record_119 : decode prog_7_method_5_code 119 = .ok (.putfield 58, 3) := by decide +kernel
theorem d_Mo_record_122 : decode prog_7_method_5_code 122 = .ok (.iinc 6 1, 3) := by decide +kernel
theorem d_Mo_record_125 : decode prog_7_method_5_code 125 = .ok (.goto (-61), 3) := by decide +kernel
theorem d_Mo_record_128 : decode prog_7_method_5_code 128 = .ok (.aload_n 0, 1) := by decide +kernel
theorem d_Mo_record_129 : decode prog_7_method_5_code 129 = .ok (.getfield 58, 3) := by decide +kernel
theorem d_Mo_record_132 : decode prog_7_method_5_code 132 = .ok (.ireturn, 1) := by decide +kernel
theorem d_Mo_undo_0 : decode prog_7_method_6_code 0 = .ok (.aload_n 0, 1) := by decide +kernel
theorem d_Mo_undo_1 : decode prog_7_method_6_code 1 = .ok (.iconst 0, 1) := by decide +kernel
theorem d_Mo_undo_2 : decode prog_7_method_6_code 2 = .ok (.putfield 51, 3) := by decide +kernel
theorem d_Mo_undo_5 : decode prog_7_method_6_code 5 = .ok (.iload_n 1, 1) := by decide +kernel
theorem d_Mo_undo_6 : decode prog_7_method_6_code 6 = .ok (.ifCond .lt 11, 3) := by decide +kernel
theorem d_Mo_undo_9 : decode prog_7_method_6_code 9 = .ok (.iload_n 1, 1) := by decide +kernel
theorem d_Mo_undo_10 : decode prog_7_method_6_code 10 = .ok (.aload_n 0, 1) := by decide +kernel
theorem d_Mo_undo_11 : decode prog_7_method_6_code 11 = .ok (.getfield 58, 3) := by decide +kernel
theorem d_Mo_undo_14 : decode prog_7_method_6_code 14 = .ok (.if_icmp .le 5, 3) := by decide +kernel
theorem d_Mo_undo_17 : decode prog_7_method_6_code 17 = .ok (.iconst 0, 1) := by decide +kernel
theorem d_Mo_undo_18 : decode prog_7_method_6_code 18 = .ok (.ireturn, 1) := by decide +kernel
theorem d_Mo_undo_19 : decode prog_7_method_6_code 19 = .ok (.aload_n 0, 1) := by decide +kernel
theorem d_Mo_undo_20 : decode prog_7_method_6_code 20 = .ok (.dup, 1) := by decide +kernel
theorem d_Mo_undo_21 : decode prog_7_method_6_code 21 = .ok (.getfield 58, 3) := by decide +kernel
theorem d_Mo_undo_24 : decode prog_7_method_6_code 24 = .ok (.iload_n 1, 1) := by decide +kernel
theorem d_Mo_undo_25 : decode prog_7_method_6_code 25 = .ok (.isub, 1) := by decide +kernel
theorem d_Mo_undo_26 : decode prog_7_method_6_code 26 = .ok (.putfield 58, 3) := by decide +kernel
theorem d_Mo_undo_29 : decode prog_7_method_6_code 29 = .ok (.iconst 1, 1) := by decide +kernel
theorem d_Mo_undo_30 : decode prog_7_method_6_code 30 = .ok (.ireturn, 1) := by decide +kernel
theorem d_Mo_again_0 : decode prog_7_method_7_code 0 = .ok (.aload_n 0, 1) := by decide +kernel
theorem d_Mo_again_1 : decode prog_7_method_7_code 1 = .ok (.iconst 0, 1) := by decide +kernel
theorem d_Mo_again_2 : decode prog_7_method_7_code 2 = .ok (.putfield 51, 3) := by decide +kernel
theorem d_Mo_again_5 : decode prog_7_method_7_code 5 = .ok (.iload_n 1, 1) := by decide +kernel
theorem d_Mo_again_6 : decode prog_7_method_7_code 6 = .ok (.ifCond .lt 38, 3) := by decide +kernel
theorem d_Mo_again_9 : decode prog_7_method_7_code 9 = .ok (.iload_n 2, 1) := by decide +kernel
theorem d_Mo_again_10 : decode prog_7_method_7_code 10 = .ok (.iconst 1, 1) := by decide +kernel
theorem d_Mo_again_11 : decode prog_7_method_7_code 11 = .ok (.if_icmp .lt 33, 3) := by decide +kernel
theorem d_Mo_again_14 : decode prog_7_method_7_code 14 = .ok (.iload_n 1, 1) := by decide +kernel
theorem d_Mo_again_15 : decode prog_7_method_7_code 15 = .ok (.aload_n 0, 1) := by decide +kernel
theorem d_Mo_again_16 : decode prog_7_method_7_code 16 = .ok (.getfield 58, 3) := by decide +kernel
theorem d_Mo_again_19 : decode prog_7_method_7_code 19 = .ok (.iload_n 2, 1) := by decide +kernel
theorem d_Mo_again_20 : decode prog_7_method_7_code 20 = .ok (.isub, 1) := by decide +kernel
theorem d_Mo_again_21 : decode prog_7_method_7_code 21 = .ok (.if_icmp .gt 23, 3) := by decide +kernel
theorem d_Mo_again_24 : decode prog_7_method_7_code 24 = .ok (.iload_n 2, 1) := by decide +kernel
theorem d_Mo_again_25 : decode prog_7_method_7_code 25 = .ok (.aload_n 0, 1) := by decide +kernel
theorem d_Mo_again_26 : decode prog_7_method_7_code 26 = .ok (.getfield 58, 3) := by decide +kernel
theorem d_Mo_again_29 : decode prog_7_method_7_code 29 = .ok (.if_icmp .gt 15, 3) := by decide +kernel
theorem d_Mo_again_32 : decode prog_7_method_7_code 32 = .ok (.aload_n 0, 1) := by decide +kernel
theorem d_Mo_again_33 : decode prog_7_method_7_code 33 = .ok (.getfield 58, 3) := by decide +kernel
theorem d_Mo_again_36 : decode prog_7_method_7_code 36 = .ok (.iload_n 2, 1) := by decide +kernel
theorem d_Mo_again_37 : decode prog_7_method_7_code 37 = .ok (.iadd, 1) := by decide +kernel
theorem d_Mo_again_38 : decode prog_7_method_7_code 38 = .ok (.sipush 1024, 3) := by decide +kernel
theorem d_Mo_again_41 : decode prog_7_method_7_code 41 = .ok (.if_icmp .le 5, 3) := by decide +kernel
theorem d_Mo_again_44 : decode prog_7_method_7_code 44 = .ok (.iconst (-1), 1) := by decide +kernel
theorem d_Mo_again_45 : decode prog_7_method_7_code 45 = .ok (.ireturn, 1) := by decide +kernel
theorem d_Mo_again_46 : decode prog_7_method_7_code 46 = .ok (.iconst 0, 1) := by decide +kernel
theorem d_Mo_again_47 : decode prog_7_method_7_code 47 = .ok (.istore_n 3, 1) := by decide +kernel
theorem d_Mo_again_48 : decode prog_7_method_7_code 48 = .ok (.iload_n 3, 1) := by decide +kernel
theorem d_Mo_again_49 : decode prog_7_method_7_code 49 = .ok (.iload_n 2, 1) := by decide +kernel
theorem d_Mo_again_50 : decode prog_7_method_7_code 50 = .ok (.if_icmp .ge 87, 3) := by decide +kernel
theorem d_Mo_again_53 : decode prog_7_method_7_code 53 = .ok (.aload_n 0, 1) := by decide +kernel
theorem d_Mo_again_54 : decode prog_7_method_7_code 54 = .ok (.getfield 13, 3) := by decide +kernel
theorem d_Mo_again_57 : decode prog_7_method_7_code 57 = .ok (.aload_n 0, 1) := by decide +kernel
theorem d_Mo_again_58 : decode prog_7_method_7_code 58 = .ok (.getfield 58, 3) := by decide +kernel
theorem d_Mo_again_61 : decode prog_7_method_7_code 61 = .ok (.aload_n 0, 1) := by decide +kernel
theorem d_Mo_again_62 : decode prog_7_method_7_code 62 = .ok (.getfield 13, 3) := by decide +kernel
theorem d_Mo_again_65 : decode prog_7_method_7_code 65 = .ok (.iload_n 1, 1) := by decide +kernel
theorem d_Mo_again_66 : decode prog_7_method_7_code 66 = .ok (.iload_n 3, 1) := by decide +kernel
theorem d_Mo_again_67 : decode prog_7_method_7_code 67 = .ok (.iadd, 1) := by decide +kernel
theorem d_Mo_again_68 : decode prog_7_method_7_code 68 = .ok (.iaload, 1) := by decide +kernel
theorem d_Mo_again_69 : decode prog_7_method_7_code 69 = .ok (.iastore, 1) := by decide +kernel
theorem d_Mo_again_70 : decode prog_7_method_7_code 70 = .ok (.aload_n 0, 1) := by decide +kernel
theorem d_Mo_again_71 : decode prog_7_method_7_code 71 = .ok (.getfield 16, 3) := by decide +kernel
theorem d_Mo_again_74 : decode prog_7_method_7_code 74 = .ok (.aload_n 0, 1) := by decide +kernel
theorem d_Mo_again_75 : decode prog_7_method_7_code 75 = .ok (.getfield 58, 3) := by decide +kernel
theorem d_Mo_again_78 : decode prog_7_method_7_code 78 = .ok (.aload_n 0, 1) := by decide +kernel
theorem d_Mo_again_79 : decode prog_7_method_7_code 79 = .ok (.getfield 16, 3) := by decide +kernel
theorem d_Mo_again_82 : decode prog_7_method_7_code 82 = .ok (.iload_n 1, 1) := by decide +kernel
theorem d_Mo_again_83 : decode prog_7_method_7_code 83 = .ok (.iload_n 3, 1) := by decide +kernel
theorem d_Mo_again_84 : decode prog_7_method_7_code 84 = .ok (.iadd, 1) := by decide +kernel
theorem d_Mo_again_85 : decode prog_7_method_7_code 85 = .ok (.iaload, 1) := by decide +kernel
theorem d_Mo_again_86 : decode prog_7_method_7_code 86 = .ok (.iastore, 1) := by decide +kernel
theorem d_Mo_again_87 : decode prog_7_method_7_code 87 = .ok (.aload_n 0, 1) := by decide +kernel
theorem d_Mo_again_88 : decode prog_7_method_7_code 88 = .ok (.getfield 19, 3) := by decide +kernel
theorem d_Mo_again_91 : decode prog_7_method_7_code 91 = .ok (.aload_n 0, 1) := by decide +kernel
theorem d_Mo_again_92 : decode prog_7_method_7_code 92 = .ok (.getfield 58, 3) := by decide +kernel
theorem d_Mo_again_95 : decode prog_7_method_7_code 95 = .ok (.aload_n 0, 1) := by decide +kernel
theorem d_Mo_again_96 : decode prog_7_method_7_code 96 = .ok (.getfield 19, 3) := by decide +kernel
theorem d_Mo_again_99 : decode prog_7_method_7_code 99 = .ok (.iload_n 1, 1) := by decide +kernel
theorem d_Mo_again_100 : decode prog_7_method_7_code 100 = .ok (.iload_n 3, 1) := by decide +kernel
theorem d_Mo_again_101 : decode prog_7_method_7_code 101 = .ok (.iadd, 1) := by decide +kernel
theorem d_Mo_again_102 : decode prog_7_method_7_code 102 = .ok (.iaload, 1) := by decide +kernel
theorem d_Mo_again_103 : decode prog_7_method_7_code 103 = .ok (.iastore, 1) := by decide +kernel
theorem d_Mo_again_104 : decode prog_7_method_7_code 104 = .ok (.aload_n 0, 1) := by decide +kernel
theorem d_Mo_again_105 : decode prog_7_method_7_code 105 = .ok (.getfield 22, 3) := by decide +kernel
theorem d_Mo_again_108 : decode prog_7_method_7_code 108 = .ok (.aload_n 0, 1) := by decide +kernel
theorem d_Mo_again_109 : decode prog_7_method_7_code 109 = .ok (.getfield 58, 3) := by decide +kernel
theorem d_Mo_again_112 : decode prog_7_method_7_code 112 = .ok (.aload_n 0, 1) := by decide +kernel
theorem d_Mo_again_113 : decode prog_7_method_7_code 113 = .ok (.getfield 22, 3) := by decide +kernel
theorem d_Mo_again_116 : decode prog_7_method_7_code 116 = .ok (.iload_n 1, 1) := by decide +kernel
theorem d_Mo_again_117 : decode prog_7_method_7_code 117 = .ok (.iload_n 3, 1) := by decide +kernel
theorem d_Mo_again_118 : decode prog_7_method_7_code 118 = .ok (.iadd, 1) := by decide +kernel
theorem d_Mo_again_119 : decode prog_7_method_7_code 119 = .ok (.baload, 1) := by decide +kernel
theorem d_Mo_again_120 : decode prog_7_method_7_code 120 = .ok (.bastore, 1) := by decide +kernel
theorem d_Mo_again_121 : decode prog_7_method_7_code 121 = .ok (.aload_n 0, 1) := by decide +kernel
theorem d_Mo_again_122 : decode prog_7_method_7_code 122 = .ok (.dup, 1) := by decide +kernel
theorem d_Mo_again_123 : decode prog_7_method_7_code 123 = .ok (.getfield 58, 3) := by decide +kernel
theorem d_Mo_again_126 : decode prog_7_method_7_code 126 = .ok (.iconst 1, 1) := by decide +kernel
theorem d_Mo_again_127 : decode prog_7_method_7_code 127 = .ok (.iadd, 1) := by decide +kernel
theorem d_Mo_again_128 : decode prog_7_method_7_code 128 = .ok (.putfield 58, 3) := by decide +kernel
theorem d_Mo_again_131 : decode prog_7_method_7_code 131 = .ok (.iinc 3 1, 3) := by decide +kernel
theorem d_Mo_again_134 : decode prog_7_method_7_code 134 = .ok (.goto (-86), 3) := by decide +kernel
theorem d_Mo_again_137 : decode prog_7_method_7_code 137 = .ok (.aload_n 0, 1) := by decide +kernel
theorem d_Mo_again_138 : decode prog_7_method_7_code 138 = .ok (.getfield 58, 3) := by decide +kernel
theorem d_Mo_again_141 : decode prog_7_method_7_code 141 = .ok (.ireturn, 1) := by decide +kernel
theorem d_Mo_cut_0 : decode prog_7_method_15_code 0 = .ok (.aload_n 0, 1) := by decide +kernel
theorem d_Mo_cut_1 : decode prog_7_method_15_code 1 = .ok (.iconst 0, 1) := by decide +kernel
theorem d_Mo_cut_2 : decode prog_7_method_15_code 2 = .ok (.putfield 51, 3) := by decide +kernel
theorem d_Mo_cut_5 : decode prog_7_method_15_code 5 = .ok (.iload_n 1, 1) := by decide +kernel
theorem d_Mo_cut_6 : decode prog_7_method_15_code 6 = .ok (.ifCond .lt 11, 3) := by decide +kernel
theorem d_Mo_cut_9 : decode prog_7_method_15_code 9 = .ok (.iload_n 1, 1) := by decide +kernel
theorem d_Mo_cut_10 : decode prog_7_method_15_code 10 = .ok (.aload_n 0, 1) := by decide +kernel
theorem d_Mo_cut_11 : decode prog_7_method_15_code 11 = .ok (.getfield 85, 3) := by decide +kernel
theorem d_Mo_cut_14 : decode prog_7_method_15_code 14 = .ok (.if_icmp .le 5, 3) := by decide +kernel
theorem d_Mo_cut_17 : decode prog_7_method_15_code 17 = .ok (.iconst 0, 1) := by decide +kernel
theorem d_Mo_cut_18 : decode prog_7_method_15_code 18 = .ok (.ireturn, 1) := by decide +kernel
theorem d_Mo_cut_19 : decode prog_7_method_15_code 19 = .ok (.aload_n 0, 1) := by decide +kernel
theorem d_Mo_cut_20 : decode prog_7_method_15_code 20 = .ok (.iload_n 1, 1) := by decide +kernel
theorem d_Mo_cut_21 : decode prog_7_method_15_code 21 = .ok (.putfield 85, 3) := by decide +kernel
theorem d_Mo_cut_24 : decode prog_7_method_15_code 24 = .ok (.iconst 1, 1) := by decide +kernel
theorem d_Mo_cut_25 : decode prog_7_method_15_code 25 = .ok (.ireturn, 1) := by decide +kernel
theorem d_Mo_poke_0 : decode prog_7_method_16_code 0 = .ok (.aload_n 0, 1) := by decide +kernel
theorem d_Mo_poke_1 : decode prog_7_method_16_code 1 = .ok (.iconst 0, 1) := by decide +kernel
theorem d_Mo_poke_2 : decode prog_7_method_16_code 2 = .ok (.putfield 51, 3) := by decide +kernel
theorem d_Mo_poke_5 : decode prog_7_method_16_code 5 = .ok (.iload_n 1, 1) := by decide +kernel
theorem d_Mo_poke_6 : decode prog_7_method_16_code 6 = .ok (.ifCond .lt 11, 3) := by decide +kernel
theorem d_Mo_poke_9 : decode prog_7_method_16_code 9 = .ok (.iload_n 1, 1) := by decide +kernel
theorem d_Mo_poke_10 : decode prog_7_method_16_code 10 = .ok (.aload_n 0, 1) := by decide +kernel
theorem d_Mo_poke_11 : decode prog_7_method_16_code 11 = .ok (.getfield 85, 3) := by decide +kernel
theorem d_Mo_poke_14 : decode prog_7_method_16_code 14 = .ok (.if_icmp .lt 5, 3) := by decide +kernel
theorem d_Mo_poke_17 : decode prog_7_method_16_code 17 = .ok (.iconst 0, 1) := by decide +kernel
theorem d_Mo_poke_18 : decode prog_7_method_16_code 18 = .ok (.ireturn, 1) := by decide +kernel
theorem d_Mo_poke_19 : decode prog_7_method_16_code 19 = .ok (.aload_n 0, 1) := by decide +kernel
theorem d_Mo_poke_20 : decode prog_7_method_16_code 20 = .ok (.getfield 29, 3) := by decide +kernel
theorem d_Mo_poke_23 : decode prog_7_method_16_code 23 = .ok (.iload_n 1, 1) := by decide +kernel
theorem d_Mo_poke_24 : decode prog_7_method_16_code 24 = .ok (.iload_n 2, 1) := by decide +kernel
theorem d_Mo_poke_25 : decode prog_7_method_16_code 25 = .ok (.sipush 255, 3) := by decide +kernel
theorem d_Mo_poke_28 : decode prog_7_method_16_code 28 = .ok (.iand, 1) := by decide +kernel
theorem d_Mo_poke_29 : decode prog_7_method_16_code 29 = .ok (.iastore, 1) := by decide +kernel
theorem d_Mo_poke_30 : decode prog_7_method_16_code 30 = .ok (.iconst 1, 1) := by decide +kernel
theorem d_Mo_poke_31 : decode prog_7_method_16_code 31 = .ok (.ireturn, 1) := by decide +kernel
theorem d_Mo_give_0 : decode prog_7_method_13_code 0 = .ok (.aload_n 0, 1) := by decide +kernel
theorem d_Mo_give_1 : decode prog_7_method_13_code 1 = .ok (.iconst 0, 1) := by decide +kernel
theorem d_Mo_give_2 : decode prog_7_method_13_code 2 = .ok (.putfield 51, 3) := by decide +kernel
theorem d_Mo_give_5 : decode prog_7_method_13_code 5 = .ok (.iload_n 3, 1) := by decide +kernel
theorem d_Mo_give_6 : decode prog_7_method_13_code 6 = .ok (.iconst 1, 1) := by decide +kernel
theorem d_Mo_give_7 : decode prog_7_method_13_code 7 = .ok (.if_icmp .lt 21, 3) := by decide +kernel
theorem d_Mo_give_10 : decode prog_7_method_13_code 10 = .ok (.iload_n 3, 1) := by decide +kernel
theorem d_Mo_give_11 : decode prog_7_method_13_code 11 = .ok (.bipush 8, 2) := by decide +kernel
theorem d_Mo_give_13 : decode prog_7_method_13_code 13 = .ok (.if_icmp .gt 15, 3) := by decide +kernel
theorem d_Mo_give_16 : decode prog_7_method_13_code 16 = .ok (.aload_n 0, 1) := by decide +kernel
theorem d_Mo_give_17 : decode prog_7_method_13_code 17 = .ok (.getfield 85, 3) := by decide +kernel
theorem d_Mo_give_20 : decode prog_7_method_13_code 20 = .ok (.iload_n 3, 1) := by decide +kernel
theorem d_Mo_give_21 : decode prog_7_method_13_code 21 = .ok (.iadd, 1) := by decide +kernel
theorem d_Mo_give_22 : decode prog_7_method_13_code 22 = .ok (.sipush 8192, 3) := by decide +kernel
theorem d_Mo_give_25 : decode prog_7_method_13_code 25 = .ok (.if_icmp .le 5, 3) := by decide +kernel
theorem d_Mo_give_28 : decode prog_7_method_13_code 28 = .ok (.iconst 0, 1) := by decide +kernel
theorem d_Mo_give_29 : decode prog_7_method_13_code 29 = .ok (.ireturn, 1) := by decide +kernel
theorem d_Mo_give_30 : decode prog_7_method_13_code 30 = .ok (.iload_n 3, 1) := by decide +kernel
theorem d_Mo_give_31 : decode prog_7_method_13_code 31 = .ok (.iconst 1, 1) := by decide +kernel
theorem d_Mo_give_32 : decode prog_7_method_13_code 32 = .ok (.isub, 1) := by decide +kernel
theorem d_Mo_give_33 : decode prog_7_method_13_code 33 = .ok (.istore 4, 2) := by decide +kernel
theorem d_Mo_give_35 : decode prog_7_method_13_code 35 = .ok (.iload 4, 2) := by decide +kernel
theorem d_Mo_give_37 : decode prog_7_method_13_code 37 = .ok (.ifCond .lt 40, 3) := by decide +kernel
theorem d_Mo_give_40 : decode prog_7_method_13_code 40 = .ok (.aload_n 0, 1) := by decide +kernel
theorem d_Mo_give_41 : decode prog_7_method_13_code 41 = .ok (.getfield 29, 3) := by decide +kernel
theorem d_Mo_give_44 : decode prog_7_method_13_code 44 = .ok (.aload_n 0, 1) := by decide +kernel
theorem d_Mo_give_45 : decode prog_7_method_13_code 45 = .ok (.getfield 85, 3) := by decide +kernel
theorem d_Mo_give_48 : decode prog_7_method_13_code 48 = .ok (.lload_n 1, 1) := by decide +kernel
theorem d_Mo_give_49 : decode prog_7_method_13_code 49 = .ok (.bipush 8, 2) := by decide +kernel
theorem d_Mo_give_51 : decode prog_7_method_13_code 51 = .ok (.iload 4, 2) := by decide +kernel
theorem d_Mo_give_53 : decode prog_7_method_13_code 53 = .ok (.imul, 1) := by decide +kernel
theorem d_Mo_give_54 : decode prog_7_method_13_code 54 = .ok (.lshr, 1) := by decide +kernel
theorem d_Mo_give_55 : decode prog_7_method_13_code 55 = .ok (.ldc2_w 88, 3) := by decide +kernel
theorem d_Mo_give_58 : decode prog_7_method_13_code 58 = .ok (.land, 1) := by decide +kernel
theorem d_Mo_give_59 : decode prog_7_method_13_code 59 = .ok (.l2i, 1) := by decide +kernel
theorem d_Mo_give_60 : decode prog_7_method_13_code 60 = .ok (.iastore, 1) := by decide +kernel
theorem d_Mo_give_61 : decode prog_7_method_13_code 61 = .ok (.aload_n 0, 1) := by decide +kernel
theorem d_Mo_give_62 : decode prog_7_method_13_code 62 = .ok (.dup, 1) := by decide +kernel
theorem d_Mo_give_63 : decode prog_7_method_13_code 63 = .ok (.getfield 85, 3) := by decide +kernel
theorem d_Mo_give_66 : decode prog_7_method_13_code 66 = .ok (.iconst 1, 1) := by decide +kernel
theorem d_Mo_give_67 : decode prog_7_method_13_code 67 = .ok (.iadd, 1) := by decide +kernel
theorem d_Mo_give_68 : decode prog_7_method_13_code 68 = .ok (.putfield 85, 3) := by decide +kernel
theorem d_Mo_give_71 : decode prog_7_method_13_code 71 = .ok (.iinc 4 (-1), 3) := by decide +kernel
theorem d_Mo_give_74 : decode prog_7_method_13_code 74 = .ok (.goto (-39), 3) := by decide +kernel
theorem d_Mo_give_77 : decode prog_7_method_13_code 77 = .ok (.iconst 1, 1) := by decide +kernel
theorem d_Mo_give_78 : decode prog_7_method_13_code 78 = .ok (.ireturn, 1) := by decide +kernel
theorem d_Mo_turnOver_0 : decode prog_7_method_14_code 0 = .ok (.aload_n 0, 1) := by decide +kernel
theorem d_Mo_turnOver_1 : decode prog_7_method_14_code 1 = .ok (.iconst 0, 1) := by decide +kernel
theorem d_Mo_turnOver_2 : decode prog_7_method_14_code 2 = .ok (.putfield 51, 3) := by decide +kernel
theorem d_Mo_turnOver_5 : decode prog_7_method_14_code 5 = .ok (.iconst 0, 1) := by decide +kernel
theorem d_Mo_turnOver_6 : decode prog_7_method_14_code 6 = .ok (.istore_n 1, 1) := by decide +kernel
theorem d_Mo_turnOver_7 : decode prog_7_method_14_code 7 = .ok (.iload_n 1, 1) := by decide +kernel
theorem d_Mo_turnOver_8 : decode prog_7_method_14_code 8 = .ok (.aload_n 0, 1) := by decide +kernel
theorem d_Mo_turnOver_9 : decode prog_7_method_14_code 9 = .ok (.getfield 61, 3) := by decide +kernel
theorem d_Mo_turnOver_12 : decode prog_7_method_14_code 12 = .ok (.if_icmp .ge 21, 3) := by decide +kernel
theorem d_Mo_turnOver_15 : decode prog_7_method_14_code 15 = .ok (.aload_n 0, 1) := by decide +kernel
theorem d_Mo_turnOver_16 : decode prog_7_method_14_code 16 = .ok (.getfield 29, 3) := by decide +kernel
theorem d_Mo_turnOver_19 : decode prog_7_method_14_code 19 = .ok (.iload_n 1, 1) := by decide +kernel
theorem d_Mo_turnOver_20 : decode prog_7_method_14_code 20 = .ok (.aload_n 0, 1) := by decide +kernel
theorem d_Mo_turnOver_21 : decode prog_7_method_14_code 21 = .ok (.getfield 26, 3) := by decide +kernel
theorem d_Mo_turnOver_24 : decode prog_7_method_14_code 24 = .ok (.iload_n 1, 1) := by decide +kernel
theorem d_Mo_turnOver_25 : decode prog_7_method_14_code 25 = .ok (.iaload, 1) := by decide +kernel
theorem d_Mo_turnOver_26 : decode prog_7_method_14_code 26 = .ok (.iastore, 1) := by decide +kernel
theorem d_Mo_turnOver_27 : decode prog_7_method_14_code 27 = .ok (.iinc 1 1, 3) := by decide +kernel
theorem d_Mo_turnOver_30 : decode prog_7_method_14_code 30 = .ok (.goto (-23), 3) := by decide +kernel
theorem d_Mo_turnOver_33 : decode prog_7_method_14_code 33 = .ok (.aload_n 0, 1) := by decide +kernel
theorem d_Mo_turnOver_34 : decode prog_7_method_14_code 34 = .ok (.aload_n 0, 1) := by decide +kernel
theorem d_Mo_turnOver_35 : decode prog_7_method_14_code 35 = .ok (.getfield 61, 3) := by decide +kernel
theorem d_Mo_turnOver_38 : decode prog_7_method_14_code 38 = .ok (.putfield 85, 3) := by decide +kernel
theorem d_Mo_turnOver_41 : decode prog_7_method_14_code 41 = .ok (.return_, 1) := by decide +kernel
theorem d_Mo_begin_0 : decode prog_7_method_25_code 0 = .ok (.aload_n 0, 1) := by decide +kernel
theorem d_Mo_begin_1 : decode prog_7_method_25_code 1 = .ok (.iconst 0, 1) := by decide +kernel
theorem d_Mo_begin_2 : decode prog_7_method_25_code 2 = .ok (.putfield 51, 3) := by decide +kernel
theorem d_Mo_begin_5 : decode prog_7_method_25_code 5 = .ok (.iload_n 1, 1) := by decide +kernel
theorem d_Mo_begin_6 : decode prog_7_method_25_code 6 = .ok (.ifCond .lt 8, 3) := by decide +kernel
theorem d_Mo_begin_9 : decode prog_7_method_25_code 9 = .ok (.iload_n 1, 1) := by decide +kernel
theorem d_Mo_begin_10 : decode prog_7_method_25_code 10 = .ok (.iconst 3, 1) := by decide +kernel
theorem d_Mo_begin_11 : decode prog_7_method_25_code 11 = .ok (.if_icmp .le 8, 3) := by decide +kernel
theorem d_Mo_begin_14 : decode prog_7_method_25_code 14 = .ok (.ldc 121, 2) := by decide +kernel
theorem d_Mo_begin_16 : decode prog_7_method_25_code 16 = .ok (.goto 9, 3) := by decide +kernel
theorem d_Mo_begin_19 : decode prog_7_method_25_code 19 = .ok (.aload_n 0, 1) := by decide +kernel
theorem d_Mo_begin_20 : decode prog_7_method_25_code 20 = .ok (.getfield 7, 3) := by decide +kernel
theorem d_Mo_begin_23 : decode prog_7_method_25_code 23 = .ok (.iload_n 1, 1) := by decide +kernel
theorem d_Mo_begin_24 : decode prog_7_method_25_code 24 = .ok (.iaload, 1) := by decide +kernel
theorem d_Mo_begin_25 : decode prog_7_method_25_code 25 = .ok (.ireturn, 1) := by decide +kernel
theorem d_Mo_byteAt_0 : decode prog_7_method_26_code 0 = .ok (.aload_n 0, 1) := by decide +kernel
theorem d_Mo_byteAt_1 : decode prog_7_method_26_code 1 = .ok (.iconst 0, 1) := by decide +kernel
theorem d_Mo_byteAt_2 : decode prog_7_method_26_code 2 = .ok (.putfield 51, 3) := by decide +kernel
theorem d_Mo_byteAt_5 : decode prog_7_method_26_code 5 = .ok (.iload_n 1, 1) := by decide +kernel
theorem d_Mo_byteAt_6 : decode prog_7_method_26_code 6 = .ok (.ifCond .lt 22, 3) := by decide +kernel
theorem d_Mo_byteAt_9 : decode prog_7_method_26_code 9 = .ok (.iload_n 1, 1) := by decide +kernel
theorem d_Mo_byteAt_10 : decode prog_7_method_26_code 10 = .ok (.iload_n 2, 1) := by decide +kernel
theorem d_Mo_byteAt_11 : decode prog_7_method_26_code 11 = .ok (.ifCond .eq 10, 3) := by decide +kernel
theorem d_Mo_byteAt_14 : decode prog_7_method_26_code 14 = .ok (.aload_n 0, 1) := by decide +kernel
theorem d_Mo_byteAt_15 : decode prog_7_method_26_code 15 = .ok (.getfield 85, 3) := by decide +kernel
theorem d_Mo_byteAt_18 : decode prog_7_method_26_code 18 = .ok (.goto 7, 3) := by decide +kernel
theorem d_Mo_byteAt_21 : decode prog_7_method_26_code 21 = .ok (.aload_n 0, 1) := by decide +kernel
theorem d_Mo_byteAt_22 : decode prog_7_method_26_code 22 = .ok (.getfield 61, 3) := by decide +kernel
theorem d_Mo_byteAt_25 : decode prog_7_method_26_code 25 = .ok (.if_icmp .lt 7, 3) := by decide +kernel
theorem d_Mo_byteAt_28 : decode prog_7_method_26_code 28 = .ok (.iconst (-1), 1) := by decide +kernel
theorem d_Mo_byteAt_29 : decode prog_7_method_26_code 29 = .ok (.goto 22, 3) := by decide +kernel
theorem d_Mo_byteAt_32 : decode prog_7_method_26_code 32 = .ok (.iload_n 2, 1) := by decide +kernel
theorem d_Mo_byteAt_33 : decode prog_7_method_26_code 33 = .ok (.ifCond .eq 12, 3) := by decide +kernel
theorem d_Mo_byteAt_36 : decode prog_7_method_26_code 36 = .ok (.aload_n 0, 1) := by decide +kernel
theorem d_Mo_byteAt_37 : decode prog_7_method_26_code 37 = .ok (.getfield 29, 3) := by decide +kernel
theorem d_Mo_byteAt_40 : decode prog_7_method_26_code 40 = .ok (.iload_n 1, 1) := by decide +kernel
theorem d_Mo_byteAt_41 : decode prog_7_method_26_code 41 = .ok (.iaload, 1) := by decide +kernel
theorem d_Mo_byteAt_42 : decode prog_7_method_26_code 42 = .ok (.goto 9, 3) := by decide +kernel
theorem d_Mo_byteAt_45 : decode prog_7_method_26_code 45 = .ok (.aload_n 0, 1) := by decide +kernel
theorem d_Mo_byteAt_46 : decode prog_7_method_26_code 46 = .ok (.getfield 26, 3) := by decide +kernel
theorem d_Mo_byteAt_49 : decode prog_7_method_26_code 49 = .ok (.iload_n 1, 1) := by decide +kernel
theorem d_Mo_byteAt_50 : decode prog_7_method_26_code 50 = .ok (.iaload, 1) := by decide +kernel
theorem d_Mo_byteAt_51 : decode prog_7_method_26_code 51 = .ok (.ireturn, 1) := by decide +kernel
theorem d_Mo_input_0 : decode prog_7_method_24_code 0 = .ok (.aload_n 0, 1) := by decide +kernel
theorem d_Mo_input_1 : decode prog_7_method_24_code 1 = .ok (.iconst 0, 1) := by decide +kernel
theorem d_Mo_input_2 : decode prog_7_method_24_code 2 = .ok (.putfield 51, 3) := by decide +kernel
theorem d_Mo_input_5 : decode prog_7_method_24_code 5 = .ok (.iload_n 1, 1) := by decide +kernel
theorem d_Mo_input_6 : decode prog_7_method_24_code 6 = .ok (.ifCond .lt 11, 3) := by decide +kernel
theorem d_Mo_input_9 : decode prog_7_method_24_code 9 = .ok (.iload_n 1, 1) := by decide +kernel
theorem d_Mo_input_10 : decode prog_7_method_24_code 10 = .ok (.aload_n 0, 1) := by decide +kernel
theorem d_Mo_input_11 : decode prog_7_method_24_code 11 = .ok (.getfield 58, 3) := by decide +kernel
theorem d_Mo_input_14 : decode prog_7_method_24_code 14 = .ok (.if_icmp .lt 6, 3) := by decide +kernel
theorem d_Mo_input_17 : decode prog_7_method_24_code 17 = .ok (.ldc 121, 2) := by decide +kernel
theorem d_Mo_input_19 : decode prog_7_method_24_code 19 = .ok (.ireturn, 1) := by decide +kernel
theorem d_Mo_input_20 : decode prog_7_method_24_code 20 = .ok (.iload_n 2, 1) := by decide +kernel
theorem d_Mo_input_21 : decode prog_7_method_24_code 21 = .ok (.ifCond .ne 12, 3) := by decide +kernel
theorem d_Mo_input_24 : decode prog_7_method_24_code 24 = .ok (.aload_n 0, 1) := by decide +kernel
theorem d_Mo_input_25 : decode prog_7_method_24_code 25 = .ok (.getfield 13, 3) := by decide +kernel
theorem d_Mo_input_28 : decode prog_7_method_24_code 28 = .ok (.iload_n 1, 1) := by decide +kernel
theorem d_Mo_input_29 : decode prog_7_method_24_code 29 = .ok (.iaload, 1) := by decide +kernel
