theorem d_Mo_init_0 : decode prog_7_method_1_code 0 = .ok (.aload_n 0, 1) := by decide +kernel
theorem d_Mo_init_1 : decode prog_7_method_1_code 1 = .ok (.invokespecial 1, 3) := by decide +kernel
theorem d_Mo_init_4 : decode prog_7_method_1_code 4 = .ok (.aload_n 0, 1) := by decide +kernel
theorem d_Mo_init_5 : decode prog_7_method_1_code 5 = .ok (.iconst 4, 1) := by decide +kernel
theorem d_Mo_init_6 : decode prog_7_method_1_code 6 = .ok (.newarray .int, 2) := by decide +kernel
theorem d_Mo_init_8 : decode prog_7_method_1_code 8 = .ok (.putfield 7, 3) := by decide +kernel
theorem d_Mo_init_11 : decode prog_7_method_1_code 11 = .ok (.aload_n 0, 1) := by decide +kernel
theorem d_Mo_init_12 : decode prog_7_method_1_code 12 = .ok (.sipush 1024, 3) := by decide +kernel
theorem d_Mo_init_15 : decode prog_7_method_1_code 15 = .ok (.newarray .int, 2) := by decide +kernel
theorem d_Mo_init_17 : decode prog_7_method_1_code 17 = .ok (.putfield 13, 3) := by decide +kernel
theorem d_Mo_init_20 : decode prog_7_method_1_code 20 = .ok (.aload_n 0, 1) := by decide +kernel
theorem d_Mo_init_21 : decode prog_7_method_1_code 21 = .ok (.sipush 1024, 3) := by decide +kernel
theorem d_Mo_init_24 : decode prog_7_method_1_code 24 = .ok (.newarray .int, 2) := by decide +kernel
theorem d_Mo_init_26 : decode prog_7_method_1_code 26 = .ok (.putfield 16, 3) := by decide +kernel
theorem d_Mo_init_29 : decode prog_7_method_1_code 29 = .ok (.aload_n 0, 1) := by decide +kernel
theorem d_Mo_init_30 : decode prog_7_method_1_code 30 = .ok (.sipush 1024, 3) := by decide +kernel
theorem d_Mo_init_33 : decode prog_7_method_1_code 33 = .ok (.newarray .int, 2) := by decide +kernel
theorem d_Mo_init_35 : decode prog_7_method_1_code 35 = .ok (.putfield 19, 3) := by decide +kernel
theorem d_Mo_init_38 : decode prog_7_method_1_code 38 = .ok (.aload_n 0, 1) := by decide +kernel
theorem d_Mo_init_39 : decode prog_7_method_1_code 39 = .ok (.sipush 1024, 3) := by decide +kernel
theorem d_Mo_init_42 : decode prog_7_method_1_code 42 = .ok (.newarray .boolean, 2) := by decide +kernel
theorem d_Mo_init_44 : decode prog_7_method_1_code 44 = .ok (.putfield 22, 3) := by decide +kernel
theorem d_Mo_init_47 : decode prog_7_method_1_code 47 = .ok (.aload_n 0, 1) := by decide +kernel
theorem d_Mo_init_48 : decode prog_7_method_1_code 48 = .ok (.sipush 4200, 3) := by decide +kernel
theorem d_Mo_init_51 : decode prog_7_method_1_code 51 = .ok (.newarray .int, 2) := by decide +kernel
theorem d_Mo_init_53 : decode prog_7_method_1_code 53 = .ok (.putfield 26, 3) := by decide +kernel
theorem d_Mo_init_56 : decode prog_7_method_1_code 56 = .ok (.aload_n 0, 1) := by decide +kernel
theorem d_Mo_init_57 : decode prog_7_method_1_code 57 = .ok (.sipush 8192, 3) := by decide +kernel
theorem d_Mo_init_60 : decode prog_7_method_1_code 60 = .ok (.newarray .int, 2) := by decide +kernel
theorem d_Mo_init_62 : decode prog_7_method_1_code 62 = .ok (.putfield 29, 3) := by decide +kernel
theorem d_Mo_init_65 : decode prog_7_method_1_code 65 = .ok (.aload_n 0, 1) := by decide +kernel
theorem d_Mo_init_66 : decode prog_7_method_1_code 66 = .ok (.iconst 4, 1) := by decide +kernel
theorem d_Mo_init_67 : decode prog_7_method_1_code 67 = .ok (.newarray .int, 2) := by decide +kernel
theorem d_Mo_init_69 : decode prog_7_method_1_code 69 = .ok (.putfield 32, 3) := by decide +kernel
theorem d_Mo_init_72 : decode prog_7_method_1_code 72 = .ok (.aload_n 0, 1) := by decide +kernel
theorem d_Mo_init_73 : decode prog_7_method_1_code 73 = .ok (.sipush 1024, 3) := by decide +kernel
theorem d_Mo_init_76 : decode prog_7_method_1_code 76 = .ok (.newarray .int, 2) := by decide +kernel
theorem d_Mo_init_78 : decode prog_7_method_1_code 78 = .ok (.putfield 35, 3) := by decide +kernel
theorem d_Mo_init_81 : decode prog_7_method_1_code 81 = .ok (.aload_n 0, 1) := by decide +kernel
theorem d_Mo_init_82 : decode prog_7_method_1_code 82 = .ok (.sipush 1024, 3) := by decide +kernel
theorem d_Mo_init_85 : decode prog_7_method_1_code 85 = .ok (.newarray .int, 2) := by decide +kernel
theorem d_Mo_init_87 : decode prog_7_method_1_code 87 = .ok (.putfield 38, 3) := by decide +kernel
theorem d_Mo_init_90 : decode prog_7_method_1_code 90 = .ok (.aload_n 0, 1) := by decide +kernel
theorem d_Mo_init_91 : decode prog_7_method_1_code 91 = .ok (.sipush 1024, 3) := by decide +kernel
theorem d_Mo_init_94 : decode prog_7_method_1_code 94 = .ok (.newarray .int, 2) := by decide +kernel
theorem d_Mo_init_96 : decode prog_7_method_1_code 96 = .ok (.putfield 41, 3) := by decide +kernel
theorem d_Mo_init_99 : decode prog_7_method_1_code 99 = .ok (.aload_n 0, 1) := by decide +kernel
theorem d_Mo_init_100 : decode prog_7_method_1_code 100 = .ok (.sipush 1024, 3) := by decide +kernel
theorem d_Mo_init_103 : decode prog_7_method_1_code 103 = .ok (.newarray .boolean, 2) := by decide +kernel
theorem d_Mo_init_105 : decode prog_7_method_1_code 105 = .ok (.putfield 44, 3) := by decide +kernel
theorem d_Mo_init_108 : decode prog_7_method_1_code 108 = .ok (.aload_n 0, 1) := by decide +kernel
theorem d_Mo_init_109 : decode prog_7_method_1_code 109 = .ok (.iconst (-1), 1) := by decide +kernel
theorem d_Mo_init_110 : decode prog_7_method_1_code 110 = .ok (.putfield 47, 3) := by decide +kernel
theorem d_Mo_init_113 : decode prog_7_method_1_code 113 = .ok (.return_, 1) := by decide +kernel
theorem d_Mo_isIn_0 : decode prog_7_method_3_code 0 = .ok (.iload_n 0, 1) := by decide +kernel
theorem d_Mo_isIn_1 : decode prog_7_method_3_code 1 = .ok (.iload_n 1, 1) := by decide +kernel
theorem d_Mo_isIn_2 : decode prog_7_method_3_code 2 = .ok (.ineg, 1) := by decide +kernel
theorem d_Mo_isIn_3 : decode prog_7_method_3_code 3 = .ok (.if_icmp .lt 12, 3) := by decide +kernel
theorem d_Mo_isIn_6 : decode prog_7_method_3_code 6 = .ok (.iload_n 0, 1) := by decide +kernel
theorem d_Mo_isIn_7 : decode prog_7_method_3_code 7 = .ok (.iload_n 1, 1) := by decide +kernel
theorem d_Mo_isIn_8 : decode prog_7_method_3_code 8 = .ok (.if_icmp .gt 7, 3) := by decide +kernel
theorem d_Mo_isIn_11 : decode prog_7_method_3_code 11 = .ok (.iconst 1, 1) := by decide +kernel
theorem d_Mo_isIn_12 : decode prog_7_method_3_code 12 = .ok (.goto 4, 3) := by decide +kernel
theorem d_Mo_isIn_15 : decode prog_7_method_3_code 15 = .ok (.iconst 0, 1) := by decide +kernel
theorem d_Mo_isIn_16 : decode prog_7_method_3_code 16 = .ok (.ireturn, 1) := by decide +kernel
theorem d_Mo_start_0 : decode prog_7_method_4_code 0 = .ok (.aload_n 0, 1) := by decide +kernel
theorem d_Mo_start_1 : decode prog_7_method_4_code 1 = .ok (.iconst 0, 1) := by decide +kernel
theorem d_Mo_start_2 : decode prog_7_method_4_code 2 = .ok (.putfield 51, 3) := by decide +kernel
theorem d_Mo_start_5 : decode prog_7_method_4_code 5 = .ok (.iload_n 1, 1) := by decide +kernel
theorem d_Mo_start_6 : decode prog_7_method_4_code 6 = .ok (.sipush (-32768), 3) := by decide +kernel
theorem d_Mo_start_9 : decode prog_7_method_4_code 9 = .ok (.if_icmp .lt 47, 3) := by decide +kernel
theorem d_Mo_start_12 : decode prog_7_method_4_code 12 = .ok (.iload_n 1, 1) := by decide +kernel
theorem d_Mo_start_13 : decode prog_7_method_4_code 13 = .ok (.sipush 32767, 3) := by decide +kernel
theorem d_Mo_start_16 : decode prog_7_method_4_code 16 = .ok (.if_icmp .gt 40, 3) := by decide +kernel
theorem d_Mo_start_19 : decode prog_7_method_4_code 19 = .ok (.iload_n 2, 1) := by decide +kernel
theorem d_Mo_start_20 : decode prog_7_method_4_code 20 = .ok (.sipush (-32768), 3) := by decide +kernel
theorem d_Mo_start_23 : decode prog_7_method_4_code 23 = .ok (.if_icmp .lt 33, 3) := by decide +kernel
theorem d_Mo_start_26 : decode prog_7_method_4_code 26 = .ok (.iload_n 2, 1) := by decide +kernel
theorem d_Mo_start_27 : decode prog_7_method_4_code 27 = .ok (.sipush 32767, 3) := by decide +kernel
theorem d_Mo_start_30 : decode prog_7_method_4_code 30 = .ok (.if_icmp .gt 26, 3) := by decide +kernel
theorem d_Mo_start_33 : decode prog_7_method_4_code 33 = .ok (.iload_n 3, 1) := by decide +kernel
theorem d_Mo_start_34 : decode prog_7_method_4_code 34 = .ok (.ifCond .lt 22, 3) := by decide +kernel
theorem d_Mo_start_37 : decode prog_7_method_4_code 37 = .ok (.iload_n 3, 1) := by decide +kernel
theorem d_Mo_start_38 : decode prog_7_method_4_code 38 = .ok (.bipush 63, 2) := by decide +kernel
theorem d_Mo_start_40 : decode prog_7_method_4_code 40 = .ok (.if_icmp .gt 16, 3) := by decide +kernel
theorem d_Mo_start_43 : decode prog_7_method_4_code 43 = .ok (.iload 4, 2) := by decide +kernel
theorem d_Mo_start_45 : decode prog_7_method_4_code 45 = .ok (.ifCond .lt 11, 3) := by decide +kernel
theorem d_Mo_start_48 : decode prog_7_method_4_code 48 = .ok (.iload 4, 2) := by decide +kernel
theorem d_Mo_start_50 : decode prog_7_method_4_code 50 = .ok (.sipush 255, 3) := by decide +kernel
theorem d_Mo_start_53 : decode prog_7_method_4_code 53 = .ok (.if_icmp .le 5, 3) := by decide +kernel
theorem d_Mo_start_56 : decode prog_7_method_4_code 56 = .ok (.iconst 0, 1) := by decide +kernel
theorem d_Mo_start_57 : decode prog_7_method_4_code 57 = .ok (.ireturn, 1) := by decide +kernel
theorem d_Mo_start_58 : decode prog_7_method_4_code 58 = .ok (.aload_n 0, 1) := by decide +kernel
theorem d_Mo_start_59 : decode prog_7_method_4_code 59 = .ok (.getfield 7, 3) := by decide +kernel
theorem d_Mo_start_62 : decode prog_7_method_4_code 62 = .ok (.iconst 0, 1) := by decide +kernel
theorem d_Mo_start_63 : decode prog_7_method_4_code 63 = .ok (.iload_n 1, 1) := by decide +kernel
theorem d_Mo_start_64 : decode prog_7_method_4_code 64 = .ok (.iastore, 1) := by decide +kernel
theorem d_Mo_start_65 : decode prog_7_method_4_code 65 = .ok (.aload_n 0, 1) := by decide +kernel
theorem d_Mo_start_66 : decode prog_7_method_4_code 66 = .ok (.getfield 7, 3) := by decide +kernel
theorem d_Mo_start_69 : decode prog_7_method_4_code 69 = .ok (.iconst 1, 1) := by decide +kernel
theorem d_Mo_start_70 : decode prog_7_method_4_code 70 = .ok (.iload_n 2, 1) := by decide +kernel
theorem d_Mo_start_71 : decode prog_7_method_4_code 71 = .ok (.iastore, 1) := by decide +kernel
theorem d_Mo_start_72 : decode prog_7_method_4_code 72 = .ok (.aload_n 0, 1) := by decide +kernel
theorem d_Mo_start_73 : decode prog_7_method_4_code 73 = .ok (.getfield 7, 3) := by decide +kernel
theorem d_Mo_start_76 : decode prog_7_method_4_code 76 = .ok (.iconst 2, 1) := by decide +kernel
theorem d_Mo_start_77 : decode prog_7_method_4_code 77 = .ok (.iload_n 3, 1) := by decide +kernel
theorem d_Mo_start_78 : decode prog_7_method_4_code 78 = .ok (.iastore, 1) := by decide +kernel
theorem d_Mo_start_79 : decode prog_7_method_4_code 79 = .ok (.aload_n 0, 1) := by decide +kernel
theorem d_Mo_start_80 : decode prog_7_method_4_code 80 = .ok (.getfield 7, 3) := by decide +kernel
theorem d_Mo_start_83 : decode prog_7_method_4_code 83 = .ok (.iconst 3, 1) := by decide +kernel
theorem d_Mo_start_84 : decode prog_7_method_4_code 84 = .ok (.iload 4, 2) := by decide +kernel
theorem d_Mo_start_86 : decode prog_7_method_4_code 86 = .ok (.iastore, 1) := by decide +kernel
theorem d_Mo_start_87 : decode prog_7_method_4_code 87 = .ok (.iconst 1, 1) := by decide +kernel
theorem d_Mo_start_88 : decode prog_7_method_4_code 88 = .ok (.ireturn, 1) := by decide +kernel
theorem d_Mo_record_0 : decode prog_7_method_5_code 0 = .ok (.aload_n 0, 1) := by decide +kernel
theorem d_Mo_record_1 : decode prog_7_method_5_code 1 = .ok (.iconst 0, 1) := by decide +kernel
theorem d_Mo_record_2 : decode prog_7_method_5_code 2 = .ok (.putfield 51, 3) := by decide +kernel
theorem d_Mo_record_5 : decode prog_7_method_5_code 5 = .ok (.iload_n 1, 1) := by decide +kernel
theorem d_Mo_record_6 : decode prog_7_method_5_code 6 = .ok (.bipush 64, 2) := by decide +kernel
theorem d_Mo_record_8 : decode prog_7_method_5_code 8 = .ok (.invokestatic 54, 3) := by decide +kernel
theorem d_Mo_record_11 : decode prog_7_method_5_code 11 = .ok (.ifCond .eq 48, 3) := by decide +kernel
theorem d_Mo_record_14 : decode prog_7_method_5_code 14 = .ok (.iload_n 2, 1) := by decide +kernel
theorem d_Mo_record_15 : decode prog_7_method_5_code 15 = .ok (.bipush 64, 2) := by decide +kernel
theorem d_Mo_record_17 : decode prog_7_method_5_code 17 = .ok (.invokestatic 54, 3) := by decide +kernel
theorem d_Mo_record_20 : decode prog_7_method_5_code 20 = .ok (.ifCond .eq 39, 3) := by decide +kernel
theorem d_Mo_record_23 : decode prog_7_method_5_code 23 = .ok (.iload_n 3, 1) := by decide +kernel
theorem d_Mo_record_24 : decode prog_7_method_5_code 24 = .ok (.bipush 16, 2) := by decide +kernel
theorem d_Mo_record_26 : decode prog_7_method_5_code 26 = .ok (.invokestatic 54, 3) := by decide +kernel
theorem d_Mo_record_29 : decode prog_7_method_5_code 29 = .ok (.ifCond .eq 30, 3) := by decide +kernel
theorem d_Mo_record_32 : decode prog_7_method_5_code 32 = .ok (.iload 5, 2) := by decide +kernel
theorem d_Mo_record_34 : decode prog_7_method_5_code 34 = .ok (.iconst 1, 1) := by decide +kernel
theorem d_Mo_record_35 : decode prog_7_method_5_code 35 = .ok (.if_icmp .lt 24, 3) := by decide +kernel
theorem d_Mo_record_38 : decode prog_7_method_5_code 38 = .ok (.iload 5, 2) := by decide +kernel
theorem d_Mo_record_40 : decode prog_7_method_5_code 40 = .ok (.sipush 1024, 3) := by decide +kernel
theorem d_Mo_record_43 : decode prog_7_method_5_code 43 = .ok (.if_icmp .gt 16, 3) := by decide +kernel
theorem d_Mo_record_46 : decode prog_7_method_5_code 46 = .ok (.aload_n 0, 1) := by decide +kernel
theorem d_Mo_record_47 : decode prog_7_method_5_code 47 = .ok (.getfield 58, 3) := by decide +kernel
theorem d_Mo_record_50 : decode prog_7_method_5_code 50 = .ok (.iload 5, 2) := by decide +kernel
theorem d_Mo_record_52 : decode prog_7_method_5_code 52 = .ok (.iadd, 1) := by decide +kernel
theorem d_Mo_record_53 : decode prog_7_method_5_code 53 = .ok (.sipush 1024, 3) := by decide +kernel
theorem d_Mo_record_56 : decode prog_7_method_5_code 56 = .ok (.if_icmp .le 5, 3) := by decide +kernel
theorem d_Mo_record_59 : decode prog_7_method_5_code 59 = .ok (.iconst (-1), 1) := by decide +kernel
theorem d_Mo_record_60 : decode prog_7_method_5_code 60 = .ok (.ireturn, 1) := by decide +kernel
theorem d_Mo_record_61 : decode prog_7_method_5_code 61 = .ok (.iconst 0, 1) := by decide +kernel
theorem d_Mo_record_62 : decode prog_7_method_5_code 62 = .ok (.istore 6, 2) := by decide +kernel
theorem d_Mo_record_64 : decode prog_7_method_5_code 64 = .ok (.iload 6, 2) := by decide +kernel
theorem d_Mo_record_66 : decode prog_7_method_5_code 66 = .ok (.iload 5, 2) := by decide +kernel
theorem d_Mo_record_68 : decode prog_7_method_5_code 68 = .ok (.if_icmp .ge 60, 3) := by decide +kernel
theorem d_Mo_record_71 : decode prog_7_method_5_code 71 = .ok (.aload_n 0, 1) := by decide +kernel
theorem d_Mo_record_72 : decode prog_7_method_5_code 72 = .ok (.getfield 13, 3) := by decide +kernel
theorem d_Mo_record_75 : decode prog_7_method_5_code 75 = .ok (.aload_n 0, 1) := by decide +kernel
theorem d_Mo_record_76 : decode prog_7_method_5_code 76 = .ok (.getfield 58, 3) := by decide +kernel
theorem d_Mo_record_79 : decode prog_7_method_5_code 79 = .ok (.iload_n 1, 1) := by decide +kernel
theorem d_Mo_record_80 : decode prog_7_method_5_code 80 = .ok (.iastore, 1) := by decide +kernel
theorem d_Mo_record_81 : decode prog_7_method_5_code 81 = .ok (.aload_n 0, 1) := by decide +kernel
theorem d_Mo_record_82 : decode prog_7_method_5_code 82 = .ok (.getfield 16, 3) := by decide +kernel
theorem d_Mo_record_85 : decode prog_7_method_5_code 85 = .ok (.aload_n 0, 1) := by decide +kernel
theorem d_Mo_record_86 : decode prog_7_method_5_code 86 = .ok (.getfield 58, 3) := by decide +kernel
theorem d_Mo_record_89 : decode prog_7_method_5_code 89 = .ok (.iload_n 2, 1) := by decide +kernel
theorem d_Mo_record_90 : decode prog_7_method_5_code 90 = .ok (.iastore, 1) := by decide +kernel
theorem d_Mo_record_91 : decode prog_7_method_5_code 91 = .ok (.aload_n 0, 1) := by decide +kernel
theorem d_Mo_record_92 : decode prog_7_method_5_code 92 = .ok (.getfield 19, 3) := by decide +kernel
theorem d_Mo_record_95 : decode prog_7_method_5_code 95 = .ok (.aload_n 0, 1) := by decide +kernel
theorem d_Mo_record_96 : decode prog_7_method_5_code 96 = .ok (.getfield 58, 3) := by decide +kernel
theorem d_Mo_record_99 : decode prog_7_method_5_code 99 = .ok (.iload_n 3, 1) := by decide +kernel
theorem d_Mo_record_100 : decode prog_7_method_5_code 100 = .ok (.iastore, 1) := by decide +kernel
theorem d_Mo_record_101 : decode prog_7_method_5_code 101 = .ok (.aload_n 0, 1) := by decide +kernel
theorem d_Mo_record_102 : decode prog_7_method_5_code 102 = .ok (.getfield 22, 3) := by decide +kernel
theorem d_Mo_record_105 : decode prog_7_method_5_code 105 = .ok (.aload_n 0, 1) := by decide +kernel
theorem d_Mo_record_106 : decode prog_7_method_5_code 106 = .ok (.getfield 58, 3) := by decide +kernel
theorem d_Mo_record_109 : decode prog_7_method_5_code 109 = .ok (.iload 4, 2) := by decide +kernel
theorem d_Mo_record_111 : decode prog_7_method_5_code 111 = .ok (.bastore, 1) := by decide +kernel
theorem d_Mo_record_112 : decode prog_7_method_5_code 112 = .ok (.aload_n 0, 1) := by decide +kernel
theorem d_Mo_record_113 : decode prog_7_method_5_code 113 = .ok (.dup, 1) := by decide +kernel
theorem d_Mo_record_114 : decode prog_7_method_5_code 114 = .ok (.getfield 58, 3) := by decide +kernel
theorem d_Mo_record_117 : decode prog_7_method_5_code 117 = .ok (.iconst 1, 1) := by decide +kernel
theorem d_Mo_record_118 : decode prog_7_method_5_code 118 = .ok (.iadd, 1) := by decide +kernel
theorem d_Mo_record_119 : decode prog_7_method_5_code 119 = .ok (.putfield 58, 3) := by decide +kernel
theorem d_Mo_record_122 : decode prog_7_method_5_code 122 = .ok (.iinc 6 1, 3) := by decide +kernel
theorem d_Mo_record_125 : decode prog_7_method_5_code 125 = .ok (.goto (-61), 3) := by decide +kernel
theorem d_Mo_record_128 : decode prog_7_method_5_code 128 = .ok (.aload_n 0, 1) := by decide +kernel
theorem d_Mo_record_129 : decode prog_7_method_5_code 129 = .ok (.getfield 58, 3) := by decide +kernel
theorem d_Mo_record_132 : decode prog_7_method_5_code 132 = .ok (.ireturn, 1) := by decide +kernel
theorem d_Mo_undo_0 : decode prog_7_method_6_code 0 = .ok (.aload_n 0, 1) := by decide +kernel
theorem d_Mo_undo_1 : decode prog_7_method_6_code 1 = .ok (.iconst 0, 1) := by decide +kernel
theorem d_Mo_undo_2 : decode prog_7_method_6_code 2 = .ok (.putfield 51, 3) := by decide +kernel
theorem d_Mo_undo_5 : decode prog_7_method_6_code 5 = .ok (.iload_n 1, 1) := by decide +kernel
theorem d_Mo_undo_6 : decode prog_7_method_6_code 6 = .ok (.ifCond .lt 11, 3) := by decide +kernel
theorem d_Mo_undo_9 : decode prog_7_method_6_code 9 = .ok (.iload_n 1, 1) := by decide +kernel
theorem d_Mo_undo_10 : decode prog_7_method_6_code 10 = .ok (.aload_n 0, 1) := by decide +kernel
theorem d_Mo_undo_11 : decode prog_7_method_6_code 11 = .ok (.getfield 58, 3) := by decide +kernel
theorem d_Mo_undo_14 : decode prog_7_method_6_code 14 = .ok (.if_icmp .le 5, 3) := by decide +kernel
theorem d_Mo_undo_17 : decode prog_7_method_6_code 17 = .ok (.iconst 0, 1) := by decide +kernel
theorem d_Mo_undo_18 : decode prog_7_method_6_code 18 = .ok (.ireturn, 1) := by decide +kernel
theorem d_Mo_undo_19 : decode prog_7_method_6_code 19 = .ok (.aload_n 0, 1) := by decide +kernel
theorem d_Mo_undo_20 : decode prog_7_method_6_code 20 = .ok (.dup, 1) := by decide +kernel
theorem d_Mo_undo_21 : decode prog_7_method_6_code 21 = .ok (.getfield 58, 3) := by decide +kernel
theorem d_Mo_undo_24 : decode prog_7_method_6_code 24 = .ok (.iload_n 1, 1) := by decide +kernel
theorem d_Mo_undo_25 : decode prog_7_method_6_code 25 = .ok (.isub, 1) := by decide +kernel
theorem d_Mo_undo_26 : decode prog_7_method_6_code 26 = .ok (.putfield 58, 3) := by decide +kernel
theorem d_Mo_undo_29 : decode prog_7_method_6_code 29 = .ok (.iconst 1, 1) := by decide +kernel
theorem d_Mo_undo_30 : decode prog_7_method_6_code 30 = .ok (.ireturn, 1) := by decide +kernel
theorem d_Mo_again_0 : decode prog_7_method_7_code 0 = .ok (.aload_n 0, 1) := by decide +kernel
theorem d_Mo_again_1 : decode prog_7_method_7_code 1 = .ok (.iconst 0, 1) := by decide +kernel
theorem d_Mo_again_2 : decode prog_7_method_7_code 2 = .ok (.putfield 51, 3) := by decide +kernel
theorem d_Mo_again_5 : decode prog_7_method_7_code 5 = .ok (.iload_n 1, 1) := by decide +kernel
theorem d_Mo_again_6 : decode prog_7_method_7_code 6 = .ok (.ifCond .lt 38, 3) := by decide +kernel
theorem d_Mo_again_9 : decode prog_7_method_7_code 9 = .ok (.iload_n 2, 1) := by decide +kernel
theorem d_Mo_again_10 : decode prog_7_method_7_code 10 = .ok (.iconst 1, 1) := by decide +kernel
theorem d_Mo_again_11 : decode prog_7_method_7_code 11 = .ok (.if_icmp .lt 33, 3) := by decide +kernel
theorem d_Mo_again_14 : decode prog_7_method_7_code 14 = .ok (.iload_n 1, 1) := by decide +kernel
theorem d_Mo_again_15 : decode prog_7_method_7_code 15 = .ok (.aload_n 0, 1) := by decide +kernel
theorem d_Mo_again_16 : decode prog_7_method_7_code 16 = .ok (.getfield 58, 3) := by decide +kernel
theorem d_Mo_again_19 : decode prog_7_method_7_code 19 = .ok (.iload_n 2, 1) := by decide +kernel
theorem d_Mo_again_20 : decode prog_7_method_7_code 20 = .ok (.isub, 1) := by decide +kernel
theorem d_Mo_again_21 : decode prog_7_method_7_code 21 = .ok (.if_icmp .gt 23, 3) := by decide +kernel
theorem d_Mo_again_24 : decode prog_7_method_7_code 24 = .ok (.iload_n 2, 1) := by decide +kernel
theorem d_Mo_again_25 : decode prog_7_method_7_code 25 = .ok (.aload_n 0, 1) := by decide +kernel
theorem d_Mo_again_26 : decode prog_7_method_7_code 26 = .ok (.getfield 58, 3) := by decide +kernel
theorem d_Mo_again_29 : decode prog_7_method_7_code 29 = .ok (.if_icmp .gt 15, 3) := by decide +kernel
theorem d_Mo_again_32 : decode prog_7_method_7_code 32 = .ok (.aload_n 0, 1) := by decide +kernel
theorem d_Mo_again_33 : decode prog_7_method_7_code 33 = .ok (.getfield 58, 3) := by decide +kernel
theorem d_Mo_again_36 : decode prog_7_method_7_code 36 = .ok (.iload_n 2, 1) := by decide +kernel
theorem d_Mo_again_37 : decode prog_7_method_7_code 37 = .ok (.iadd, 1) := by decide +kernel
theorem d_Mo_again_38 : decode prog_7_method_7_code 38 = .ok (.sipush 1024, 3) := by decide +kernel
theorem d_Mo_again_41 : decode prog_7_method_7_code 41 = .ok (.if_icmp .le 5, 3) := by decide +kernel
theorem d_Mo_again_44 : decode prog_7_method_7_code 44 = .ok (.iconst (-1), 1) := by decide +kernel
theorem d_Mo_again_45 : decode prog_7_method_7_code 45 = .ok (.ireturn, 1) := by decide +kernel
theorem d_Mo_again_46 : decode prog_7_method_7_code 46 = .ok (.iconst 0, 1) := by decide +kernel
theorem d_Mo_again_47 : decode prog_7_method_7_code 47 = .ok (.istore_n 3, 1) := by decide +kernel
theorem d_Mo_again_48 : decode prog_7_method_7_code 48 = .ok (.iload_n 3, 1) := by decide +kernel
theorem d_Mo_again_49 : decode prog_7_method_7_code 49 = .ok (.iload_n 2, 1) := by decide +kernel
theorem d_Mo_again_50 : decode prog_7_method_7_code 50 = .ok (.if_icmp .ge 87, 3) := by decide +kernel
theorem d_Mo_again_53 : decode prog_7_method_7_code 53 = .ok (.aload_n 0, 1) := by decide +kernel
theorem d_Mo_again_54 : decode prog_7_method_7_code 54 = .ok (.getfield 13, 3) := by decide +kernel
theorem d_Mo_again_57 : decode prog_7_method_7_code 57 = .ok (.aload_n 0, 1) := by decide +kernel
theorem d_Mo_again_58 : decode prog_7_method_7_code 58 = .ok (.getfield 58, 3) := by decide +kernel
theorem d_Mo_again_61 : decode prog_7_method_7_code 61 = .ok (.aload_n 0, 1) := by decide +kernel
theorem d_Mo_again_62 : decode prog_7_method_7_code 62 = .ok (.getfield 13, 3) := by decide +kernel
theorem d_Mo_again_65 : decode prog_7_method_7_code 65 = .ok (.iload_n 1, 1) := by decide +kernel
theorem d_Mo_again_66 : decode prog_7_method_7_code 66 = .ok (.iload_n 3, 1) := by decide +kernel
theorem d_Mo_again_67 : decode prog_7_method_7_code 67 = .ok (.iadd, 1) := by decide +kernel
theorem d_Mo_again_68 : decode prog_7_method_7_code 68 = .ok (.iaload, 1) := by decide +kernel
theorem d_Mo_again_69 : decode prog_7_method_7_code 69 = .ok (.iastore, 1) := by decide +kernel
theorem d_Mo_again_70 : decode prog_7_method_7_code 70 = .ok (.aload_n 0, 1) := by decide +kernel
theorem d_Mo_again_71 : decode prog_7_method_7_code 71 = .ok (.getfield 16, 3) := by decide +kernel
theorem d_Mo_again_74 : decode prog_7_method_7_code 74 = .ok (.aload_n 0, 1) := by decide +kernel
theorem d_Mo_again_75 : decode prog_7_method_7_code 75 = .ok (.getfield 58, 3) := by decide +kernel
theorem d_Mo_again_78 : decode prog_7_method_7_code 78 = .ok (.aload_n 0, 1) := by decide +kernel
theorem d_Mo_again_79 : decode prog_7_method_7_code 79 = .ok (.getfield 16, 3) := by decide +kernel
theorem d_Mo_again_82 : decode prog_7_method_7_code 82 = .ok (.iload_n 1, 1) := by decide +kernel
theorem d_Mo_again_83 : decode prog_7_method_7_code 83 = .ok (.iload_n 3, 1) := by decide +kernel
theorem d_Mo_again_84 : decode prog_7_method_7_code 84 = .ok (.iadd, 1) := by decide +kernel
theorem d_Mo_again_85 : decode prog_7_method_7_code 85 = .ok (.iaload, 1) := by decide +kernel
theorem d_Mo_again_86 : decode prog_7_method_7_code 86 = .ok (.iastore, 1) := by decide +kernel
theorem d_Mo_again_87 : decode prog_7_method_7_code 87 = .ok (.aload_n 0, 1) := by decide +kernel
theorem d_Mo_again_88 : decode prog_7_method_7_code 88 = .ok (.getfield 19, 3) := by decide +kernel
theorem d_Mo_again_91 : decode prog_7_method_7_code 91 = .ok (.aload_n 0, 1) := by decide +kernel
theorem d_Mo_again_92 : decode prog_7_method_7_code 92 = .ok (.getfield 58, 3) := by decide +kernel
theorem d_Mo_again_95 : decode prog_7_method_7_code 95 = .ok (.aload_n 0, 1) := by decide +kernel
theorem d_Mo_again_96 : decode prog_7_method_7_code 96 = .ok (.getfield 19, 3) := by decide +kernel
theorem d_Mo_again_99 : decode prog_7_method_7_code 99 = .ok (.iload_n 1, 1) := by decide +kernel
theorem d_Mo_again_100 : decode prog_7_method_7_code 100 = .ok (.iload_n 3, 1) := by decide +kernel
theorem d_Mo_again_101 : decode prog_7_method_7_code 101 = .ok (.iadd, 1) := by decide +kernel
theorem d_Mo_again_102 : decode prog_7_method_7_code 102 = .ok (.iaload, 1) := by decide +kernel
theorem d_Mo_again_103 : decode prog_7_method_7_code 103 = .ok (.iastore, 1) := by decide +kernel
theorem d_Mo_again_104 : decode prog_7_method_7_code 104 = .ok (.aload_n 0, 1) := by decide +kernel
theorem d_Mo_again_105 : decode prog_7_method_7_code 105 = .ok (.getfield 22, 3) := by decide +kernel
theorem d_Mo_again_108 : decode prog_7_method_7_code 108 = .ok (.aload_n 0, 1) := by decide +kernel
theorem d_Mo_again_109 : decode prog_7_method_7_code 109 = .ok (.getfield 58, 3) := by decide +kernel
theorem d_Mo_again_112 : decode prog_7_method_7_code 112 = .ok (.aload_n 0, 1) := by decide +kernel
theorem d_Mo_again_113 : decode prog_7_method_7_code 113 = .ok (.getfield 22, 3) := by decide +kernel
theorem d_Mo_again_116 : decode prog_7_method_7_code 116 = .ok (.iload_n 1, 1) := by decide +kernel
theorem d_Mo_again_117 : decode prog_7_method_7_code 117 = .ok (.iload_n 3, 1) := by decide +kernel
theorem d_Mo_again_118 : decode prog_7_method_7_code 118 = .ok (.iadd, 1) := by decide +kernel
theorem d_Mo_again_119 : decode prog_7_method_7_code 119 = .ok (.baload, 1) := by decide +kernel
theorem d_Mo_again_120 : decode prog_7_method_7_code 120 = .ok (.bastore, 1) := by decide +kernel
theorem d_Mo_again_121 : decode prog_7_method_7_code 121 = .ok (.aload_n 0, 1) := by decide +kernel
theorem d_Mo_again_122 : decode prog_7_method_7_code 122 = .ok (.dup, 1) := by decide +kernel
theorem d_Mo_again_123 : decode prog_7_method_7_code 123 = .ok (.getfield 58, 3) := by decide +kernel
theorem d_Mo_again_126 : decode prog_7_method_7_code 126 = .ok (.iconst 1, 1) := by decide +kernel
theorem d_Mo_again_127 : decode prog_7_method_7_code 127 = .ok (.iadd, 1) := by decide +kernel
theorem d_Mo_again_128 : decode prog_7_method_7_code 128 = .ok (.putfield 58, 3) := by decide +kernel
theorem d_Mo_again_131 : decode prog_7_method_7_code 131 = .ok (.iinc 3 1, 3) := by decide +kernel
theorem d_Mo_again_134 : decode prog_7_method_7_code 134 = .ok (.goto (-86), 3) := by decide +kernel
theorem d_Mo_again_137 : decode prog_7_method_7_code 137 = .ok (.aload_n 0, 1) := by decide +kernel
theorem d_Mo_again_138 : decode prog_7_method_7_code 138 = .ok (.getfield 58, 3) := by decide +kernel
theorem d_Mo_again_141 : decode prog_7_method_7_code 141 = .ok (.ireturn, 1) := by decide +kernel
theorem d_Mo_run_0 : decode prog_7_method_8_code 0 = .ok (.iconst 1, 1) := by decide +kernel
theorem d_Mo_run_1 : decode prog_7_method_8_code 1 = .ok (.istore_n 2, 1) := by decide +kernel
theorem d_Mo_run_2 : decode prog_7_method_8_code 2 = .ok (.iload_n 2, 1) := by decide +kernel
theorem d_Mo_run_3 : decode prog_7_method_8_code 3 = .ok (.bipush 63, 2) := by decide +kernel
theorem d_Mo_run_5 : decode prog_7_method_8_code 5 = .ok (.if_icmp .ge 87, 3) := by decide +kernel
theorem d_Mo_run_8 : decode prog_7_method_8_code 8 = .ok (.iload_n 1, 1) := by decide +kernel
theorem d_Mo_run_9 : decode prog_7_method_8_code 9 = .ok (.iload_n 2, 1) := by decide +kernel
theorem d_Mo_run_10 : decode prog_7_method_8_code 10 = .ok (.iadd, 1) := by decide +kernel
theorem d_Mo_run_11 : decode prog_7_method_8_code 11 = .ok (.aload_n 0, 1) := by decide +kernel
theorem d_Mo_run_12 : decode prog_7_method_8_code 12 = .ok (.getfield 58, 3) := by decide +kernel
theorem d_Mo_run_15 : decode prog_7_method_8_code 15 = .ok (.if_icmp .ge 77, 3) := by decide +kernel
theorem d_Mo_run_18 : decode prog_7_method_8_code 18 = .ok (.aload_n 0, 1) := by decide +kernel
theorem d_Mo_run_19 : decode prog_7_method_8_code 19 = .ok (.getfield 13, 3) := by decide +kernel
theorem d_Mo_run_22 : decode prog_7_method_8_code 22 = .ok (.iload_n 1, 1) := by decide +kernel
theorem d_Mo_run_23 : decode prog_7_method_8_code 23 = .ok (.iload_n 2, 1) := by decide +kernel
theorem d_Mo_run_24 : decode prog_7_method_8_code 24 = .ok (.iadd, 1) := by decide +kernel
theorem d_Mo_run_25 : decode prog_7_method_8_code 25 = .ok (.iaload, 1) := by decide +kernel
theorem d_Mo_run_26 : decode prog_7_method_8_code 26 = .ok (.aload_n 0, 1) := by decide +kernel
theorem d_Mo_run_27 : decode prog_7_method_8_code 27 = .ok (.getfield 13, 3) := by decide +kernel
theorem d_Mo_run_30 : decode prog_7_method_8_code 30 = .ok (.iload_n 1, 1) := by decide +kernel
theorem d_Mo_run_31 : decode prog_7_method_8_code 31 = .ok (.iaload, 1) := by decide +kernel
theorem d_Mo_run_32 : decode prog_7_method_8_code 32 = .ok (.if_icmp .ne 60, 3) := by decide +kernel
theorem d_Mo_run_35 : decode prog_7_method_8_code 35 = .ok (.aload_n 0, 1) := by decide +kernel
theorem d_Mo_run_36 : decode prog_7_method_8_code 36 = .ok (.getfield 16, 3) := by decide +kernel
theorem d_Mo_run_39 : decode prog_7_method_8_code 39 = .ok (.iload_n 1, 1) := by decide +kernel
theorem d_Mo_run_40 : decode prog_7_method_8_code 40 = .ok (.iload_n 2, 1) := by decide +kernel
theorem d_Mo_run_41 : decode prog_7_method_8_code 41 = .ok (.iadd, 1) := by decide +kernel
theorem d_Mo_run_42 : decode prog_7_method_8_code 42 = .ok (.iaload, 1) := by decide +kernel
theorem d_Mo_run_43 : decode prog_7_method_8_code 43 = .ok (.aload_n 0, 1) := by decide +kernel
theorem d_Mo_run_44 : decode prog_7_method_8_code 44 = .ok (.getfield 16, 3) := by decide +kernel
theorem d_Mo_run_47 : decode prog_7_method_8_code 47 = .ok (.iload_n 1, 1) := by decide +kernel
theorem d_Mo_run_48 : decode prog_7_method_8_code 48 = .ok (.iaload, 1) := by decide +kernel
theorem d_Mo_run_49 : decode prog_7_method_8_code 49 = .ok (.if_icmp .ne 43, 3) := by decide +kernel
theorem d_Mo_run_52 : decode prog_7_method_8_code 52 = .ok (.aload_n 0, 1) := by decide +kernel
theorem d_Mo_run_53 : decode prog_7_method_8_code 53 = .ok (.getfield 19, 3) := by decide +kernel
theorem d_Mo_run_56 : decode prog_7_method_8_code 56 = .ok (.iload_n 1, 1) := by decide +kernel
theorem d_Mo_run_57 : decode prog_7_method_8_code 57 = .ok (.iload_n 2, 1) := by decide +kernel
theorem d_Mo_run_58 : decode prog_7_method_8_code 58 = .ok (.iadd, 1) := by decide +kernel
theorem d_Mo_run_59 : decode prog_7_method_8_code 59 = .ok (.iaload, 1) := by decide +kernel
theorem d_Mo_run_60 : decode prog_7_method_8_code 60 = .ok (.aload_n 0, 1) := by decide +kernel
theorem d_Mo_run_61 : decode prog_7_method_8_code 61 = .ok (.getfield 19, 3) := by decide +kernel
theorem d_Mo_run_64 : decode prog_7_method_8_code 64 = .ok (.iload_n 1, 1) := by decide +kernel
theorem d_Mo_run_65 : decode prog_7_method_8_code 65 = .ok (.iaload, 1) := by decide +kernel
theorem d_Mo_run_66 : decode prog_7_method_8_code 66 = .ok (.if_icmp .ne 26, 3) := by decide +kernel
theorem d_Mo_run_69 : decode prog_7_method_8_code 69 = .ok (.aload_n 0, 1) := by decide +kernel
theorem d_Mo_run_70 : decode prog_7_method_8_code 70 = .ok (.getfield 22, 3) := by decide +kernel
theorem d_Mo_run_73 : decode prog_7_method_8_code 73 = .ok (.iload_n 1, 1) := by decide +kernel
theorem d_Mo_run_74 : decode prog_7_method_8_code 74 = .ok (.iload_n 2, 1) := by decide +kernel
theorem d_Mo_run_75 : decode prog_7_method_8_code 75 = .ok (.iadd, 1) := by decide +kernel
theorem d_Mo_run_76 : decode prog_7_method_8_code 76 = .ok (.baload, 1) := by decide +kernel
theorem d_Mo_run_77 : decode prog_7_method_8_code 77 = .ok (.aload_n 0, 1) := by decide +kernel
theorem d_Mo_run_78 : decode prog_7_method_8_code 78 = .ok (.getfield 22, 3) := by decide +kernel
theorem d_Mo_run_81 : decode prog_7_method_8_code 81 = .ok (.iload_n 1, 1) := by decide +kernel
theorem d_Mo_run_82 : decode prog_7_method_8_code 82 = .ok (.baload, 1) := by decide +kernel
theorem d_Mo_run_83 : decode prog_7_method_8_code 83 = .ok (.if_icmp .ne 9, 3) := by decide +kernel
theorem d_Mo_run_86 : decode prog_7_method_8_code 86 = .ok (.iinc 2 1, 3) := by decide +kernel
theorem d_Mo_run_89 : decode prog_7_method_8_code 89 = .ok (.goto (-87), 3) := by decide +kernel
theorem d_Mo_run_92 : decode prog_7_method_8_code 92 = .ok (.iload_n 2, 1) := by decide +kernel
theorem d_Mo_run_93 : decode prog_7_method_8_code 93 = .ok (.ireturn, 1) := by decide +kernel
theorem d_Mo_put_0 : decode prog_7_method_9_code 0 = .ok (.aload_n 0, 1) := by decide +kernel
theorem d_Mo_put_1 : decode prog_7_method_9_code 1 = .ok (.getfield 26, 3) := by decide +kernel
theorem d_Mo_put_4 : decode prog_7_method_9_code 4 = .ok (.aload_n 0, 1) := by decide +kernel
theorem d_Mo_put_5 : decode prog_7_method_9_code 5 = .ok (.getfield 61, 3) := by decide +kernel
theorem d_Mo_put_8 : decode prog_7_method_9_code 8 = .ok (.iload_n 1, 1) := by decide +kernel
theorem d_Mo_put_9 : decode prog_7_method_9_code 9 = .ok (.sipush 255, 3) := by decide +kernel
theorem d_Mo_put_12 : decode prog_7_method_9_code 12 = .ok (.iand, 1) := by decide +kernel
theorem d_Mo_put_13 : decode prog_7_method_9_code 13 = .ok (.iastore, 1) := by decide +kernel
theorem d_Mo_put_14 : decode prog_7_method_9_code 14 = .ok (.aload_n 0, 1) := by decide +kernel
theorem d_Mo_put_15 : decode prog_7_method_9_code 15 = .ok (.dup, 1) := by decide +kernel
theorem d_Mo_put_16 : decode prog_7_method_9_code 16 = .ok (.getfield 61, 3) := by decide +kernel
theorem d_Mo_put_19 : decode prog_7_method_9_code 19 = .ok (.iconst 1, 1) := by decide +kernel
theorem d_Mo_put_20 : decode prog_7_method_9_code 20 = .ok (.iadd, 1) := by decide +kernel
theorem d_Mo_put_21 : decode prog_7_method_9_code 21 = .ok (.putfield 61, 3) := by decide +kernel
theorem d_Mo_put_24 : decode prog_7_method_9_code 24 = .ok (.return_, 1) := by decide +kernel
theorem d_Mo_sum_0 : decode prog_7_method_10_code 0 = .ok (.aload_n 0, 1) := by decide +kernel
theorem d_Mo_sum_1 : decode prog_7_method_10_code 1 = .ok (.aload_n 0, 1) := by decide +kernel
theorem d_Mo_sum_2 : decode prog_7_method_10_code 2 = .ok (.getfield 64, 3) := by decide +kernel
theorem d_Mo_sum_5 : decode prog_7_method_10_code 5 = .ok (.iload_n 1, 1) := by decide +kernel
theorem d_Mo_sum_6 : decode prog_7_method_10_code 6 = .ok (.iadd, 1) := by decide +kernel
theorem d_Mo_sum_7 : decode prog_7_method_10_code 7 = .ok (.ldc 67, 2) := by decide +kernel
theorem d_Mo_sum_9 : decode prog_7_method_10_code 9 = .ok (.irem, 1) := by decide +kernel
theorem d_Mo_sum_10 : decode prog_7_method_10_code 10 = .ok (.putfield 64, 3) := by decide +kernel
theorem d_Mo_sum_13 : decode prog_7_method_10_code 13 = .ok (.aload_n 0, 1) := by decide +kernel
theorem d_Mo_sum_14 : decode prog_7_method_10_code 14 = .ok (.aload_n 0, 1) := by decide +kernel
theorem d_Mo_sum_15 : decode prog_7_method_10_code 15 = .ok (.getfield 68, 3) := by decide +kernel
theorem d_Mo_sum_18 : decode prog_7_method_10_code 18 = .ok (.aload_n 0, 1) := by decide +kernel
theorem d_Mo_sum_19 : decode prog_7_method_10_code 19 = .ok (.getfield 64, 3) := by decide +kernel
theorem d_Mo_sum_22 : decode prog_7_method_10_code 22 = .ok (.iadd, 1) := by decide +kernel
theorem d_Mo_sum_23 : decode prog_7_method_10_code 23 = .ok (.ldc 67, 2) := by decide +kernel
theorem d_Mo_sum_25 : decode prog_7_method_10_code 25 = .ok (.irem, 1) := by decide +kernel
theorem d_Mo_sum_26 : decode prog_7_method_10_code 26 = .ok (.putfield 68, 3) := by decide +kernel
theorem d_Mo_sum_29 : decode prog_7_method_10_code 29 = .ok (.return_, 1) := by decide +kernel
theorem d_Mo_checkByte_0 : decode prog_7_method_11_code 0 = .ok (.iload_n 1, 1) := by decide +kernel
theorem d_Mo_checkByte_1 : decode prog_7_method_11_code 1 = .ok (.iconst 2, 1) := by decide +kernel
theorem d_Mo_checkByte_2 : decode prog_7_method_11_code 2 = .ok (.if_icmp .ge 10, 3) := by decide +kernel
theorem d_Mo_checkByte_5 : decode prog_7_method_11_code 5 = .ok (.aload_n 0, 1) := by decide +kernel
theorem d_Mo_checkByte_6 : decode prog_7_method_11_code 6 = .ok (.getfield 68, 3) := by decide +kernel
theorem d_Mo_checkByte_9 : decode prog_7_method_11_code 9 = .ok (.goto 7, 3) := by decide +kernel
theorem d_Mo_checkByte_12 : decode prog_7_method_11_code 12 = .ok (.aload_n 0, 1) := by decide +kernel
theorem d_Mo_checkByte_13 : decode prog_7_method_11_code 13 = .ok (.getfield 64, 3) := by decide +kernel
theorem d_Mo_checkByte_16 : decode prog_7_method_11_code 16 = .ok (.istore_n 2, 1) := by decide +kernel
theorem d_Mo_checkByte_17 : decode prog_7_method_11_code 17 = .ok (.iload_n 1, 1) := by decide +kernel
theorem d_Mo_checkByte_18 : decode prog_7_method_11_code 18 = .ok (.iconst 2, 1) := by decide +kernel
theorem d_Mo_checkByte_19 : decode prog_7_method_11_code 19 = .ok (.irem, 1) := by decide +kernel
theorem d_Mo_checkByte_20 : decode prog_7_method_11_code 20 = .ok (.ifCond .ne 11, 3) := by decide +kernel
theorem d_Mo_checkByte_23 : decode prog_7_method_11_code 23 = .ok (.iload_n 2, 1) := by decide +kernel
theorem d_Mo_checkByte_24 : decode prog_7_method_11_code 24 = .ok (.sipush 256, 3) := by decide +kernel
theorem d_Mo_checkByte_27 : decode prog_7_method_11_code 27 = .ok (.idiv, 1) := by decide +kernel
theorem d_Mo_checkByte_28 : decode prog_7_method_11_code 28 = .ok (.goto 8, 3) := by decide +kernel
theorem d_Mo_checkByte_31 : decode prog_7_method_11_code 31 = .ok (.iload_n 2, 1) := by decide +kernel
theorem d_Mo_checkByte_32 : decode prog_7_method_11_code 32 = .ok (.sipush 256, 3) := by decide +kernel
theorem d_Mo_checkByte_35 : decode prog_7_method_11_code 35 = .ok (.irem, 1) := by decide +kernel
