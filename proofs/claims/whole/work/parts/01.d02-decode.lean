theorem d_Walk_putInto_72 : decode prog_5_method_14_code 72 = .ok (.aload_n 1, 1) := by decide +kernel
theorem d_Walk_putInto_73 : decode prog_5_method_14_code 73 = .ok (.lconst 0, 1) := by decide +kernel
theorem d_Walk_putInto_74 : decode prog_5_method_14_code 74 = .ok (.iconst 1, 1) := by decide +kernel
theorem d_Walk_putInto_75 : decode prog_5_method_14_code 75 = .ok (.invokevirtual 62, 3) := by decide +kernel
theorem d_Walk_putInto_78 : decode prog_5_method_14_code 78 = .ok (.aload_n 1, 1) := by decide +kernel
theorem d_Walk_putInto_79 : decode prog_5_method_14_code 79 = .ok (.aload_n 1, 1) := by decide +kernel
theorem d_Walk_putInto_80 : decode prog_5_method_14_code 80 = .ok (.aload_n 1, 1) := by decide +kernel
theorem d_Walk_putInto_81 : decode prog_5_method_14_code 81 = .ok (.invokevirtual 72, 3) := by decide +kernel
theorem d_Walk_putInto_84 : decode prog_5_method_14_code 84 = .ok (.invokevirtual 76, 3) := by decide +kernel
theorem d_Walk_putInto_87 : decode prog_5_method_14_code 87 = .ok (.i2l, 1) := by decide +kernel
theorem d_Walk_putInto_88 : decode prog_5_method_14_code 88 = .ok (.iconst 4, 1) := by decide +kernel
theorem d_Walk_putInto_89 : decode prog_5_method_14_code 89 = .ok (.invokevirtual 62, 3) := by decide +kernel
theorem d_Walk_putInto_92 : decode prog_5_method_14_code 92 = .ok (.return_, 1) := by decide +kernel
theorem d_Walk_init_0 : decode prog_5_method_1_code 0 = .ok (.aload_n 0, 1) := by decide +kernel
theorem d_Walk_init_1 : decode prog_5_method_1_code 1 = .ok (.invokespecial 3, 3) := by decide +kernel
theorem d_Walk_init_4 : decode prog_5_method_1_code 4 = .ok (.aload_n 0, 1) := by decide +kernel
theorem d_Walk_init_5 : decode prog_5_method_1_code 5 = .ok (.sipush 1024, 3) := by decide +kernel
theorem d_Walk_init_8 : decode prog_5_method_1_code 8 = .ok (.newarray .int, 2) := by decide +kernel
theorem d_Walk_init_10 : decode prog_5_method_1_code 10 = .ok (.putfield 9, 3) := by decide +kernel
theorem d_Walk_init_13 : decode prog_5_method_1_code 13 = .ok (.return_, 1) := by decide +kernel
theorem d_Row_init_0 : decode prog_2_method_1_code 0 = .ok (.aload_n 0, 1) := by decide +kernel
theorem d_Row_init_1 : decode prog_2_method_1_code 1 = .ok (.invokespecial 3, 3) := by decide +kernel
theorem d_Row_init_4 : decode prog_2_method_1_code 4 = .ok (.aload_n 0, 1) := by decide +kernel
theorem d_Row_init_5 : decode prog_2_method_1_code 5 = .ok (.iload_n 1, 1) := by decide +kernel
theorem d_Row_init_6 : decode prog_2_method_1_code 6 = .ok (.iconst 0, 1) := by decide +kernel
theorem d_Row_init_7 : decode prog_2_method_1_code 7 = .ok (.invokestatic 9, 3) := by decide +kernel
theorem d_Row_init_10 : decode prog_2_method_1_code 10 = .ok (.newarray .byte, 2) := by decide +kernel
theorem d_Row_init_12 : decode prog_2_method_1_code 12 = .ok (.putfield 15, 3) := by decide +kernel
theorem d_Row_init_15 : decode prog_2_method_1_code 15 = .ok (.return_, 1) := by decide +kernel
theorem d_Rd_init_0 : decode prog_4_method_1_code 0 = .ok (.aload_n 0, 1) := by decide +kernel
theorem d_Rd_init_1 : decode prog_4_method_1_code 1 = .ok (.invokespecial 3, 3) := by decide +kernel
theorem d_Rd_init_4 : decode prog_4_method_1_code 4 = .ok (.aload_n 0, 1) := by decide +kernel
theorem d_Rd_init_5 : decode prog_4_method_1_code 5 = .ok (.aload_n 1, 1) := by decide +kernel
theorem d_Rd_init_6 : decode prog_4_method_1_code 6 = .ok (.putfield 9, 3) := by decide +kernel
theorem d_Rd_init_9 : decode prog_4_method_1_code 9 = .ok (.aload_n 0, 1) := by decide +kernel
theorem d_Rd_init_10 : decode prog_4_method_1_code 10 = .ok (.iconst 0, 1) := by decide +kernel
theorem d_Rd_init_11 : decode prog_4_method_1_code 11 = .ok (.putfield 15, 3) := by decide +kernel
theorem d_Rd_init_14 : decode prog_4_method_1_code 14 = .ok (.aload_n 0, 1) := by decide +kernel
theorem d_Rd_init_15 : decode prog_4_method_1_code 15 = .ok (.iconst (-1), 1) := by decide +kernel
theorem d_Rd_init_16 : decode prog_4_method_1_code 16 = .ok (.putfield 19, 3) := by decide +kernel
theorem d_Rd_init_19 : decode prog_4_method_1_code 19 = .ok (.return_, 1) := by decide +kernel
theorem d_Tape_start_0 : decode prog_1_method_2_code 0 = .ok (.iload_n 1, 1) := by decide +kernel
theorem d_Tape_start_1 : decode prog_1_method_2_code 1 = .ok (.sipush (-32768), 3) := by decide +kernel
theorem d_Tape_start_4 : decode prog_1_method_2_code 4 = .ok (.sipush 32767, 3) := by decide +kernel
theorem d_Tape_start_7 : decode prog_1_method_2_code 7 = .ok (.invokestatic 40, 3) := by decide +kernel
theorem d_Tape_start_10 : decode prog_1_method_2_code 10 = .ok (.ifCond .eq 38, 3) := by decide +kernel
theorem d_Tape_start_13 : decode prog_1_method_2_code 13 = .ok (.iload_n 2, 1) := by decide +kernel
theorem d_Tape_start_14 : decode prog_1_method_2_code 14 = .ok (.sipush (-32768), 3) := by decide +kernel
theorem d_Tape_start_17 : decode prog_1_method_2_code 17 = .ok (.sipush 32767, 3) := by decide +kernel
theorem d_Tape_start_20 : decode prog_1_method_2_code 20 = .ok (.invokestatic 40, 3) := by decide +kernel
theorem d_Tape_start_23 : decode prog_1_method_2_code 23 = .ok (.ifCond .eq 25, 3) := by decide +kernel
theorem d_Tape_start_26 : decode prog_1_method_2_code 26 = .ok (.iload_n 3, 1) := by decide +kernel
theorem d_Tape_start_27 : decode prog_1_method_2_code 27 = .ok (.iconst 0, 1) := by decide +kernel
theorem d_Tape_start_28 : decode prog_1_method_2_code 28 = .ok (.bipush 63, 2) := by decide +kernel
theorem d_Tape_start_30 : decode prog_1_method_2_code 30 = .ok (.invokestatic 40, 3) := by decide +kernel
theorem d_Tape_start_33 : decode prog_1_method_2_code 33 = .ok (.ifCond .eq 15, 3) := by decide +kernel
theorem d_Tape_start_36 : decode prog_1_method_2_code 36 = .ok (.iload 4, 2) := by decide +kernel
theorem d_Tape_start_38 : decode prog_1_method_2_code 38 = .ok (.iconst 0, 1) := by decide +kernel
theorem d_Tape_start_39 : decode prog_1_method_2_code 39 = .ok (.sipush 255, 3) := by decide +kernel
theorem d_Tape_start_42 : decode prog_1_method_2_code 42 = .ok (.invokestatic 40, 3) := by decide +kernel
theorem d_Tape_start_45 : decode prog_1_method_2_code 45 = .ok (.ifCond .ne 5, 3) := by decide +kernel
theorem d_Tape_start_48 : decode prog_1_method_2_code 48 = .ok (.iconst 0, 1) := by decide +kernel
theorem d_Tape_start_49 : decode prog_1_method_2_code 49 = .ok (.ireturn, 1) := by decide +kernel
theorem d_Tape_start_50 : decode prog_1_method_2_code 50 = .ok (.aload_n 0, 1) := by decide +kernel
theorem d_Tape_start_51 : decode prog_1_method_2_code 51 = .ok (.getfield 12, 3) := by decide +kernel
theorem d_Tape_start_54 : decode prog_1_method_2_code 54 = .ok (.iload_n 1, 1) := by decide +kernel
theorem d_Tape_start_55 : decode prog_1_method_2_code 55 = .ok (.iload_n 2, 1) := by decide +kernel
theorem d_Tape_start_56 : decode prog_1_method_2_code 56 = .ok (.iload_n 3, 1) := by decide +kernel
theorem d_Tape_start_57 : decode prog_1_method_2_code 57 = .ok (.iload 4, 2) := by decide +kernel
theorem d_Tape_start_59 : decode prog_1_method_2_code 59 = .ok (.invokevirtual 44, 3) := by decide +kernel
theorem d_Tape_start_62 : decode prog_1_method_2_code 62 = .ok (.iconst 1, 1) := by decide +kernel
theorem d_Tape_start_63 : decode prog_1_method_2_code 63 = .ok (.ireturn, 1) := by decide +kernel
theorem d_Tape_record_0 : decode prog_1_method_3_code 0 = .ok (.iload_n 1, 1) := by decide +kernel
theorem d_Tape_record_1 : decode prog_1_method_3_code 1 = .ok (.bipush (-64), 2) := by decide +kernel
theorem d_Tape_record_3 : decode prog_1_method_3_code 3 = .ok (.bipush 64, 2) := by decide +kernel
theorem d_Tape_record_5 : decode prog_1_method_3_code 5 = .ok (.invokestatic 40, 3) := by decide +kernel
theorem d_Tape_record_8 : decode prog_1_method_3_code 8 = .ok (.ifCond .eq 41, 3) := by decide +kernel
theorem d_Tape_record_11 : decode prog_1_method_3_code 11 = .ok (.iload_n 2, 1) := by decide +kernel
theorem d_Tape_record_12 : decode prog_1_method_3_code 12 = .ok (.bipush (-64), 2) := by decide +kernel
theorem d_Tape_record_14 : decode prog_1_method_3_code 14 = .ok (.bipush 64, 2) := by decide +kernel
theorem d_Tape_record_16 : decode prog_1_method_3_code 16 = .ok (.invokestatic 40, 3) := by decide +kernel
theorem d_Tape_record_19 : decode prog_1_method_3_code 19 = .ok (.ifCond .eq 30, 3) := by decide +kernel
theorem d_Tape_record_22 : decode prog_1_method_3_code 22 = .ok (.iload_n 3, 1) := by decide +kernel
theorem d_Tape_record_23 : decode prog_1_method_3_code 23 = .ok (.bipush (-16), 2) := by decide +kernel
theorem d_Tape_record_25 : decode prog_1_method_3_code 25 = .ok (.bipush 16, 2) := by decide +kernel
theorem d_Tape_record_27 : decode prog_1_method_3_code 27 = .ok (.invokestatic 40, 3) := by decide +kernel
theorem d_Tape_record_30 : decode prog_1_method_3_code 30 = .ok (.ifCond .eq 19, 3) := by decide +kernel
theorem d_Tape_record_33 : decode prog_1_method_3_code 33 = .ok (.iload 5, 2) := by decide +kernel
theorem d_Tape_record_35 : decode prog_1_method_3_code 35 = .ok (.iconst 1, 1) := by decide +kernel
theorem d_Tape_record_36 : decode prog_1_method_3_code 36 = .ok (.aload_n 0, 1) := by decide +kernel
theorem d_Tape_record_37 : decode prog_1_method_3_code 37 = .ok (.getfield 12, 3) := by decide +kernel
theorem d_Tape_record_40 : decode prog_1_method_3_code 40 = .ok (.invokevirtual 48, 3) := by decide +kernel
theorem d_Tape_record_43 : decode prog_1_method_3_code 43 = .ok (.invokestatic 40, 3) := by decide +kernel
theorem d_Tape_record_46 : decode prog_1_method_3_code 46 = .ok (.ifCond .ne 5, 3) := by decide +kernel
theorem d_Tape_record_49 : decode prog_1_method_3_code 49 = .ok (.iconst (-1), 1) := by decide +kernel
theorem d_Tape_record_50 : decode prog_1_method_3_code 50 = .ok (.ireturn, 1) := by decide +kernel
theorem d_Tape_record_51 : decode prog_1_method_3_code 51 = .ok (.aload_n 0, 1) := by decide +kernel
theorem d_Tape_record_52 : decode prog_1_method_3_code 52 = .ok (.getfield 12, 3) := by decide +kernel
theorem d_Tape_record_55 : decode prog_1_method_3_code 55 = .ok (.iload 4, 2) := by decide +kernel
theorem d_Tape_record_57 : decode prog_1_method_3_code 57 = .ok (.iload_n 1, 1) := by decide +kernel
theorem d_Tape_record_58 : decode prog_1_method_3_code 58 = .ok (.bipush 64, 2) := by decide +kernel
theorem d_Tape_record_60 : decode prog_1_method_3_code 60 = .ok (.iadd, 1) := by decide +kernel
theorem d_Tape_record_61 : decode prog_1_method_3_code 61 = .ok (.iload_n 2, 1) := by decide +kernel
theorem d_Tape_record_62 : decode prog_1_method_3_code 62 = .ok (.bipush 64, 2) := by decide +kernel
theorem d_Tape_record_64 : decode prog_1_method_3_code 64 = .ok (.iadd, 1) := by decide +kernel
theorem d_Tape_record_65 : decode prog_1_method_3_code 65 = .ok (.iload_n 3, 1) := by decide +kernel
theorem d_Tape_record_66 : decode prog_1_method_3_code 66 = .ok (.bipush 16, 2) := by decide +kernel
theorem d_Tape_record_68 : decode prog_1_method_3_code 68 = .ok (.iadd, 1) := by decide +kernel
theorem d_Tape_record_69 : decode prog_1_method_3_code 69 = .ok (.invokestatic 52, 3) := by decide +kernel
theorem d_Tape_record_72 : decode prog_1_method_3_code 72 = .ok (.iload 5, 2) := by decide +kernel
theorem d_Tape_record_74 : decode prog_1_method_3_code 74 = .ok (.invokevirtual 58, 3) := by decide +kernel
theorem d_Tape_record_77 : decode prog_1_method_3_code 77 = .ok (.aload_n 0, 1) := by decide +kernel
theorem d_Tape_record_78 : decode prog_1_method_3_code 78 = .ok (.getfield 12, 3) := by decide +kernel
theorem d_Tape_record_81 : decode prog_1_method_3_code 81 = .ok (.invokevirtual 62, 3) := by decide +kernel
theorem d_Tape_record_84 : decode prog_1_method_3_code 84 = .ok (.ireturn, 1) := by decide +kernel
theorem d_Tape_undo_0 : decode prog_1_method_4_code 0 = .ok (.iload_n 1, 1) := by decide +kernel
theorem d_Tape_undo_1 : decode prog_1_method_4_code 1 = .ok (.iconst 0, 1) := by decide +kernel
theorem d_Tape_undo_2 : decode prog_1_method_4_code 2 = .ok (.aload_n 0, 1) := by decide +kernel
theorem d_Tape_undo_3 : decode prog_1_method_4_code 3 = .ok (.getfield 12, 3) := by decide +kernel
theorem d_Tape_undo_6 : decode prog_1_method_4_code 6 = .ok (.invokevirtual 62, 3) := by decide +kernel
theorem d_Tape_undo_9 : decode prog_1_method_4_code 9 = .ok (.invokestatic 40, 3) := by decide +kernel
theorem d_Tape_undo_12 : decode prog_1_method_4_code 12 = .ok (.ifCond .ne 5, 3) := by decide +kernel
theorem d_Tape_undo_15 : decode prog_1_method_4_code 15 = .ok (.iconst 0, 1) := by decide +kernel
theorem d_Tape_undo_16 : decode prog_1_method_4_code 16 = .ok (.ireturn, 1) := by decide +kernel
theorem d_Tape_undo_17 : decode prog_1_method_4_code 17 = .ok (.aload_n 0, 1) := by decide +kernel
theorem d_Tape_undo_18 : decode prog_1_method_4_code 18 = .ok (.getfield 12, 3) := by decide +kernel
theorem d_Tape_undo_21 : decode prog_1_method_4_code 21 = .ok (.iload_n 1, 1) := by decide +kernel
theorem d_Tape_undo_22 : decode prog_1_method_4_code 22 = .ok (.invokevirtual 65, 3) := by decide +kernel
theorem d_Tape_undo_25 : decode prog_1_method_4_code 25 = .ok (.iconst 1, 1) := by decide +kernel
theorem d_Tape_undo_26 : decode prog_1_method_4_code 26 = .ok (.ireturn, 1) := by decide +kernel
theorem d_Tape_again_0 : decode prog_1_method_5_code 0 = .ok (.iload_n 1, 1) := by decide +kernel
theorem d_Tape_again_1 : decode prog_1_method_5_code 1 = .ok (.iconst 0, 1) := by decide +kernel
theorem d_Tape_again_2 : decode prog_1_method_5_code 2 = .ok (.aload_n 0, 1) := by decide +kernel
theorem d_Tape_again_3 : decode prog_1_method_5_code 3 = .ok (.getfield 12, 3) := by decide +kernel
theorem d_Tape_again_6 : decode prog_1_method_5_code 6 = .ok (.invokevirtual 62, 3) := by decide +kernel
theorem d_Tape_again_9 : decode prog_1_method_5_code 9 = .ok (.iconst 1, 1) := by decide +kernel
theorem d_Tape_again_10 : decode prog_1_method_5_code 10 = .ok (.isub, 1) := by decide +kernel
theorem d_Tape_again_11 : decode prog_1_method_5_code 11 = .ok (.invokestatic 40, 3) := by decide +kernel
theorem d_Tape_again_14 : decode prog_1_method_5_code 14 = .ok (.ifCond .eq 31, 3) := by decide +kernel
theorem d_Tape_again_17 : decode prog_1_method_5_code 17 = .ok (.iload_n 2, 1) := by decide +kernel
theorem d_Tape_again_18 : decode prog_1_method_5_code 18 = .ok (.iconst 1, 1) := by decide +kernel
theorem d_Tape_again_19 : decode prog_1_method_5_code 19 = .ok (.aload_n 0, 1) := by decide +kernel
theorem d_Tape_again_20 : decode prog_1_method_5_code 20 = .ok (.getfield 12, 3) := by decide +kernel
theorem d_Tape_again_23 : decode prog_1_method_5_code 23 = .ok (.invokevirtual 62, 3) := by decide +kernel
theorem d_Tape_again_26 : decode prog_1_method_5_code 26 = .ok (.iload_n 1, 1) := by decide +kernel
theorem d_Tape_again_27 : decode prog_1_method_5_code 27 = .ok (.isub, 1) := by decide +kernel
theorem d_Tape_again_28 : decode prog_1_method_5_code 28 = .ok (.invokestatic 40, 3) := by decide +kernel
theorem d_Tape_again_31 : decode prog_1_method_5_code 31 = .ok (.ifCond .eq 14, 3) := by decide +kernel
theorem d_Tape_again_34 : decode prog_1_method_5_code 34 = .ok (.iload_n 2, 1) := by decide +kernel
theorem d_Tape_again_35 : decode prog_1_method_5_code 35 = .ok (.aload_n 0, 1) := by decide +kernel
theorem d_Tape_again_36 : decode prog_1_method_5_code 36 = .ok (.getfield 12, 3) := by decide +kernel
theorem d_Tape_again_39 : decode prog_1_method_5_code 39 = .ok (.invokevirtual 48, 3) := by decide +kernel
theorem d_Tape_again_42 : decode prog_1_method_5_code 42 = .ok (.if_icmp .le 5, 3) := by decide +kernel
theorem d_Tape_again_45 : decode prog_1_method_5_code 45 = .ok (.iconst (-1), 1) := by decide +kernel
theorem d_Tape_again_46 : decode prog_1_method_5_code 46 = .ok (.ireturn, 1) := by decide +kernel
theorem d_Tape_again_47 : decode prog_1_method_5_code 47 = .ok (.aload_n 0, 1) := by decide +kernel
theorem d_Tape_again_48 : decode prog_1_method_5_code 48 = .ok (.getfield 12, 3) := by decide +kernel
theorem d_Tape_again_51 : decode prog_1_method_5_code 51 = .ok (.iload_n 1, 1) := by decide +kernel
theorem d_Tape_again_52 : decode prog_1_method_5_code 52 = .ok (.iload_n 2, 1) := by decide +kernel
theorem d_Tape_again_53 : decode prog_1_method_5_code 53 = .ok (.invokevirtual 68, 3) := by decide +kernel
theorem d_Tape_again_56 : decode prog_1_method_5_code 56 = .ok (.aload_n 0, 1) := by decide +kernel
theorem d_Tape_again_57 : decode prog_1_method_5_code 57 = .ok (.getfield 12, 3) := by decide +kernel
theorem d_Tape_again_60 : decode prog_1_method_5_code 60 = .ok (.invokevirtual 62, 3) := by decide +kernel
theorem d_Tape_again_63 : decode prog_1_method_5_code 63 = .ok (.ireturn, 1) := by decide +kernel
theorem d_Tape_write_0 : decode prog_1_method_6_code 0 = .ok (.aload_n 0, 1) := by decide +kernel
theorem d_Tape_write_1 : decode prog_1_method_6_code 1 = .ok (.getfield 24, 3) := by decide +kernel
theorem d_Tape_write_4 : decode prog_1_method_6_code 4 = .ok (.iconst 0, 1) := by decide +kernel
theorem d_Tape_write_5 : decode prog_1_method_6_code 5 = .ok (.invokevirtual 71, 3) := by decide +kernel
theorem d_Tape_write_8 : decode prog_1_method_6_code 8 = .ok (.aload_n 0, 1) := by decide +kernel
theorem d_Tape_write_9 : decode prog_1_method_6_code 9 = .ok (.getfield 12, 3) := by decide +kernel
theorem d_Tape_write_12 : decode prog_1_method_6_code 12 = .ok (.aload_n 0, 1) := by decide +kernel
theorem d_Tape_write_13 : decode prog_1_method_6_code 13 = .ok (.getfield 24, 3) := by decide +kernel
theorem d_Tape_write_16 : decode prog_1_method_6_code 16 = .ok (.invokevirtual 74, 3) := by decide +kernel
theorem d_Tape_write_19 : decode prog_1_method_6_code 19 = .ok (.aload_n 0, 1) := by decide +kernel
theorem d_Tape_write_20 : decode prog_1_method_6_code 20 = .ok (.getfield 24, 3) := by decide +kernel
theorem d_Tape_write_23 : decode prog_1_method_6_code 23 = .ok (.invokevirtual 77, 3) := by decide +kernel
theorem d_Tape_write_26 : decode prog_1_method_6_code 26 = .ok (.ireturn, 1) := by decide +kernel
theorem d_Tape_give_0 : decode prog_1_method_7_code 0 = .ok (.iload_n 3, 1) := by decide +kernel
theorem d_Tape_give_1 : decode prog_1_method_7_code 1 = .ok (.iconst 1, 1) := by decide +kernel
theorem d_Tape_give_2 : decode prog_1_method_7_code 2 = .ok (.bipush 8, 2) := by decide +kernel
theorem d_Tape_give_4 : decode prog_1_method_7_code 4 = .ok (.invokestatic 40, 3) := by decide +kernel
theorem d_Tape_give_7 : decode prog_1_method_7_code 7 = .ok (.ifCond .eq 14, 3) := by decide +kernel
theorem d_Tape_give_10 : decode prog_1_method_7_code 10 = .ok (.iload_n 3, 1) := by decide +kernel
theorem d_Tape_give_11 : decode prog_1_method_7_code 11 = .ok (.aload_n 0, 1) := by decide +kernel
theorem d_Tape_give_12 : decode prog_1_method_7_code 12 = .ok (.getfield 28, 3) := by decide +kernel
theorem d_Tape_give_15 : decode prog_1_method_7_code 15 = .ok (.invokevirtual 80, 3) := by decide +kernel
theorem d_Tape_give_18 : decode prog_1_method_7_code 18 = .ok (.if_icmp .le 5, 3) := by decide +kernel
theorem d_Tape_give_21 : decode prog_1_method_7_code 21 = .ok (.iconst 0, 1) := by decide +kernel
theorem d_Tape_give_22 : decode prog_1_method_7_code 22 = .ok (.ireturn, 1) := by decide +kernel
theorem d_Tape_give_23 : decode prog_1_method_7_code 23 = .ok (.aload_n 0, 1) := by decide +kernel
theorem d_Tape_give_24 : decode prog_1_method_7_code 24 = .ok (.getfield 28, 3) := by decide +kernel
theorem d_Tape_give_27 : decode prog_1_method_7_code 27 = .ok (.lload_n 1, 1) := by decide +kernel
theorem d_Tape_give_28 : decode prog_1_method_7_code 28 = .ok (.iload_n 3, 1) := by decide +kernel
theorem d_Tape_give_29 : decode prog_1_method_7_code 29 = .ok (.invokevirtual 81, 3) := by decide +kernel
theorem d_Tape_give_32 : decode prog_1_method_7_code 32 = .ok (.iconst 1, 1) := by decide +kernel
theorem d_Tape_give_33 : decode prog_1_method_7_code 33 = .ok (.ireturn, 1) := by decide +kernel
theorem d_Tape_turnOver_0 : decode prog_1_method_8_code 0 = .ok (.aload_n 0, 1) := by decide +kernel
theorem d_Tape_turnOver_1 : decode prog_1_method_8_code 1 = .ok (.getfield 28, 3) := by decide +kernel
theorem d_Tape_turnOver_4 : decode prog_1_method_8_code 4 = .ok (.aload_n 0, 1) := by decide +kernel
theorem d_Tape_turnOver_5 : decode prog_1_method_8_code 5 = .ok (.getfield 24, 3) := by decide +kernel
theorem d_Tape_turnOver_8 : decode prog_1_method_8_code 8 = .ok (.invokevirtual 85, 3) := by decide +kernel
theorem d_Tape_turnOver_11 : decode prog_1_method_8_code 11 = .ok (.return_, 1) := by decide +kernel
theorem d_Tape_cut_0 : decode prog_1_method_9_code 0 = .ok (.iload_n 1, 1) := by decide +kernel
theorem d_Tape_cut_1 : decode prog_1_method_9_code 1 = .ok (.iconst 0, 1) := by decide +kernel
theorem d_Tape_cut_2 : decode prog_1_method_9_code 2 = .ok (.aload_n 0, 1) := by decide +kernel
theorem d_Tape_cut_3 : decode prog_1_method_9_code 3 = .ok (.getfield 28, 3) := by decide +kernel
theorem d_Tape_cut_6 : decode prog_1_method_9_code 6 = .ok (.invokevirtual 77, 3) := by decide +kernel
theorem d_Tape_cut_9 : decode prog_1_method_9_code 9 = .ok (.invokestatic 40, 3) := by decide +kernel
theorem d_Tape_cut_12 : decode prog_1_method_9_code 12 = .ok (.ifCond .ne 5, 3) := by decide +kernel
theorem d_Tape_cut_15 : decode prog_1_method_9_code 15 = .ok (.iconst 0, 1) := by decide +kernel
theorem d_Tape_cut_16 : decode prog_1_method_9_code 16 = .ok (.ireturn, 1) := by decide +kernel
theorem d_Tape_cut_17 : decode prog_1_method_9_code 17 = .ok (.aload_n 0, 1) := by decide +kernel
theorem d_Tape_cut_18 : decode prog_1_method_9_code 18 = .ok (.getfield 28, 3) := by decide +kernel
theorem d_Tape_cut_21 : decode prog_1_method_9_code 21 = .ok (.iload_n 1, 1) := by decide +kernel
theorem d_Tape_cut_22 : decode prog_1_method_9_code 22 = .ok (.invokevirtual 71, 3) := by decide +kernel
theorem d_Tape_cut_25 : decode prog_1_method_9_code 25 = .ok (.iconst 1, 1) := by decide +kernel
theorem d_Tape_cut_26 : decode prog_1_method_9_code 26 = .ok (.ireturn, 1) := by decide +kernel
theorem d_Tape_poke_0 : decode prog_1_method_10_code 0 = .ok (.iload_n 1, 1) := by decide +kernel
theorem d_Tape_poke_1 : decode prog_1_method_10_code 1 = .ok (.iconst 0, 1) := by decide +kernel
theorem d_Tape_poke_2 : decode prog_1_method_10_code 2 = .ok (.aload_n 0, 1) := by decide +kernel
theorem d_Tape_poke_3 : decode prog_1_method_10_code 3 = .ok (.getfield 28, 3) := by decide +kernel
theorem d_Tape_poke_6 : decode prog_1_method_10_code 6 = .ok (.invokevirtual 77, 3) := by decide +kernel
theorem d_Tape_poke_9 : decode prog_1_method_10_code 9 = .ok (.iconst 1, 1) := by decide +kernel
theorem d_Tape_poke_10 : decode prog_1_method_10_code 10 = .ok (.isub, 1) := by decide +kernel
theorem d_Tape_poke_11 : decode prog_1_method_10_code 11 = .ok (.invokestatic 40, 3) := by decide +kernel
theorem d_Tape_poke_14 : decode prog_1_method_10_code 14 = .ok (.ifCond .ne 5, 3) := by decide +kernel
theorem d_Tape_poke_17 : decode prog_1_method_10_code 17 = .ok (.iconst 0, 1) := by decide +kernel
theorem d_Tape_poke_18 : decode prog_1_method_10_code 18 = .ok (.ireturn, 1) := by decide +kernel
theorem d_Tape_poke_19 : decode prog_1_method_10_code 19 = .ok (.aload_n 0, 1) := by decide +kernel
theorem d_Tape_poke_20 : decode prog_1_method_10_code 20 = .ok (.getfield 28, 3) := by decide +kernel
theorem d_Tape_poke_23 : decode prog_1_method_10_code 23 = .ok (.iload_n 1, 1) := by decide +kernel
theorem d_Tape_poke_24 : decode prog_1_method_10_code 24 = .ok (.iload_n 2, 1) := by decide +kernel
theorem d_Tape_poke_25 : decode prog_1_method_10_code 25 = .ok (.invokevirtual 88, 3) := by decide +kernel
theorem d_Tape_poke_28 : decode prog_1_method_10_code 28 = .ok (.iconst 1, 1) := by decide +kernel
theorem d_Tape_poke_29 : decode prog_1_method_10_code 29 = .ok (.ireturn, 1) := by decide +kernel
theorem d_Tape_read_0 : decode prog_1_method_11_code 0 = .ok (.aload_n 0, 1) := by decide +kernel
theorem d_Tape_read_1 : decode prog_1_method_11_code 1 = .ok (.getfield 36, 3) := by decide +kernel
theorem d_Tape_read_4 : decode prog_1_method_11_code 4 = .ok (.aload_n 0, 1) := by decide +kernel
theorem d_Tape_read_5 : decode prog_1_method_11_code 5 = .ok (.getfield 16, 3) := by decide +kernel
theorem d_Tape_read_8 : decode prog_1_method_11_code 8 = .ok (.invokevirtual 91, 3) := by decide +kernel
theorem d_Tape_read_11 : decode prog_1_method_11_code 11 = .ok (.aload_n 0, 1) := by decide +kernel
theorem d_Tape_read_12 : decode prog_1_method_11_code 12 = .ok (.getfield 36, 3) := by decide +kernel
theorem d_Tape_read_15 : decode prog_1_method_11_code 15 = .ok (.invokevirtual 95, 3) := by decide +kernel
theorem d_Tape_read_18 : decode prog_1_method_11_code 18 = .ok (.ifCond .ne 21, 3) := by decide +kernel
theorem d_Tape_read_21 : decode prog_1_method_11_code 21 = .ok (.aload_n 0, 1) := by decide +kernel
theorem d_Tape_read_22 : decode prog_1_method_11_code 22 = .ok (.getfield 12, 3) := by decide +kernel
theorem d_Tape_read_25 : decode prog_1_method_11_code 25 = .ok (.astore_n 1, 1) := by decide +kernel
theorem d_Tape_read_26 : decode prog_1_method_11_code 26 = .ok (.aload_n 0, 1) := by decide +kernel
theorem d_Tape_read_27 : decode prog_1_method_11_code 27 = .ok (.aload_n 0, 1) := by decide +kernel
theorem d_Tape_read_28 : decode prog_1_method_11_code 28 = .ok (.getfield 16, 3) := by decide +kernel
theorem d_Tape_read_31 : decode prog_1_method_11_code 31 = .ok (.putfield 12, 3) := by decide +kernel
theorem d_Tape_read_34 : decode prog_1_method_11_code 34 = .ok (.aload_n 0, 1) := by decide +kernel
theorem d_Tape_read_35 : decode prog_1_method_11_code 35 = .ok (.aload_n 1, 1) := by decide +kernel
theorem d_Tape_read_36 : decode prog_1_method_11_code 36 = .ok (.putfield 16, 3) := by decide +kernel
theorem d_Tape_read_39 : decode prog_1_method_11_code 39 = .ok (.aload_n 0, 1) := by decide +kernel
theorem d_Tape_read_40 : decode prog_1_method_11_code 40 = .ok (.getfield 36, 3) := by decide +kernel
theorem d_Tape_read_43 : decode prog_1_method_11_code 43 = .ok (.invokevirtual 95, 3) := by decide +kernel
theorem d_Tape_read_46 : decode prog_1_method_11_code 46 = .ok (.ireturn, 1) := by decide +kernel
theorem d_Tape_input_0 : decode prog_1_method_12_code 0 = .ok (.aload_n 0, 1) := by decide +kernel
theorem d_Tape_input_1 : decode prog_1_method_12_code 1 = .ok (.getfield 12, 3) := by decide +kernel
theorem d_Tape_input_4 : decode prog_1_method_12_code 4 = .ok (.iload_n 1, 1) := by decide +kernel
theorem d_Tape_input_5 : decode prog_1_method_12_code 5 = .ok (.invokevirtual 98, 3) := by decide +kernel
theorem d_Tape_input_8 : decode prog_1_method_12_code 8 = .ok (.istore_n 3, 1) := by decide +kernel
theorem d_Tape_input_9 : decode prog_1_method_12_code 9 = .ok (.iload_n 3, 1) := by decide +kernel
theorem d_Tape_input_10 : decode prog_1_method_12_code 10 = .ok (.iconst (-1), 1) := by decide +kernel
theorem d_Tape_input_11 : decode prog_1_method_12_code 11 = .ok (.if_icmp .ne 6, 3) := by decide +kernel
theorem d_Tape_input_14 : decode prog_1_method_12_code 14 = .ok (.ldc 102, 2) := by decide +kernel
theorem d_Tape_input_16 : decode prog_1_method_12_code 16 = .ok (.ireturn, 1) := by decide +kernel
theorem d_Tape_input_17 : decode prog_1_method_12_code 17 = .ok (.iload_n 2, 1) := by decide +kernel
theorem d_Tape_input_18 : decode prog_1_method_12_code 18 = .ok (.tableswitch 67 0 3 #[30, 38, 46, 54], 30) := by decide +kernel
theorem d_Tape_input_48 : decode prog_1_method_12_code 48 = .ok (.iload_n 3, 1) := by decide +kernel
theorem d_Tape_input_49 : decode prog_1_method_12_code 49 = .ok (.invokestatic 103, 3) := by decide +kernel
theorem d_Tape_input_52 : decode prog_1_method_12_code 52 = .ok (.bipush 64, 2) := by decide +kernel
theorem d_Tape_input_54 : decode prog_1_method_12_code 54 = .ok (.isub, 1) := by decide +kernel
theorem d_Tape_input_55 : decode prog_1_method_12_code 55 = .ok (.ireturn, 1) := by decide +kernel
theorem d_Tape_input_56 : decode prog_1_method_12_code 56 = .ok (.iload_n 3, 1) := by decide +kernel
theorem d_Tape_input_57 : decode prog_1_method_12_code 57 = .ok (.invokestatic 106, 3) := by decide +kernel
theorem d_Tape_input_60 : decode prog_1_method_12_code 60 = .ok (.bipush 64, 2) := by decide +kernel
theorem d_Tape_input_62 : decode prog_1_method_12_code 62 = .ok (.isub, 1) := by decide +kernel
theorem d_Tape_input_63 : decode prog_1_method_12_code 63 = .ok (.ireturn, 1) := by decide +kernel
theorem d_Tape_input_64 : decode prog_1_method_12_code 64 = .ok (.iload_n 3, 1) := by decide +kernel
theorem d_Tape_input_65 : decode prog_1_method_12_code 65 = .ok (.invokestatic 109, 3) := by decide +kernel
theorem d_Tape_input_68 : decode prog_1_method_12_code 68 = .ok (.bipush 16, 2) := by decide +kernel
theorem d_Tape_input_70 : decode prog_1_method_12_code 70 = .ok (.isub, 1) := by decide +kernel
theorem d_Tape_input_71 : decode prog_1_method_12_code 71 = .ok (.ireturn, 1) := by decide +kernel
theorem d_Tape_input_72 : decode prog_1_method_12_code 72 = .ok (.iload_n 3, 1) := by decide +kernel
theorem d_Tape_input_73 : decode prog_1_method_12_code 73 = .ok (.invokestatic 112, 3) := by decide +kernel
theorem d_Tape_input_76 : decode prog_1_method_12_code 76 = .ok (.ifCond .eq 7, 3) := by decide +kernel
theorem d_Tape_input_79 : decode prog_1_method_12_code 79 = .ok (.iconst 1, 1) := by decide +kernel
theorem d_Tape_input_80 : decode prog_1_method_12_code 80 = .ok (.goto 4, 3) := by decide +kernel
theorem d_Tape_input_83 : decode prog_1_method_12_code 83 = .ok (.iconst 0, 1) := by decide +kernel
theorem d_Tape_input_84 : decode prog_1_method_12_code 84 = .ok (.ireturn, 1) := by decide +kernel
theorem d_Tape_input_85 : decode prog_1_method_12_code 85 = .ok (.ldc 102, 2) := by decide +kernel
theorem d_Tape_input_87 : decode prog_1_method_12_code 87 = .ok (.ireturn, 1) := by decide +kernel
theorem d_Tape_begin_0 : decode prog_1_method_13_code 0 = .ok (.aload_n 0, 1) := by decide +kernel
theorem d_Tape_begin_1 : decode prog_1_method_13_code 1 = .ok (.getfield 12, 3) := by decide +kernel
theorem d_Tape_begin_4 : decode prog_1_method_13_code 4 = .ok (.iload_n 1, 1) := by decide +kernel
theorem d_Tape_begin_5 : decode prog_1_method_13_code 5 = .ok (.invokevirtual 116, 3) := by decide +kernel
theorem d_Tape_begin_8 : decode prog_1_method_13_code 8 = .ok (.ireturn, 1) := by decide +kernel
theorem d_Tape_byteAt_0 : decode prog_1_method_14_code 0 = .ok (.iload_n 2, 1) := by decide +kernel
theorem d_Tape_byteAt_1 : decode prog_1_method_14_code 1 = .ok (.ifCond .eq 14, 3) := by decide +kernel
theorem d_Tape_byteAt_4 : decode prog_1_method_14_code 4 = .ok (.aload_n 0, 1) := by decide +kernel
theorem d_Tape_byteAt_5 : decode prog_1_method_14_code 5 = .ok (.getfield 28, 3) := by decide +kernel
theorem d_Tape_byteAt_8 : decode prog_1_method_14_code 8 = .ok (.iload_n 1, 1) := by decide +kernel
theorem d_Tape_byteAt_9 : decode prog_1_method_14_code 9 = .ok (.invokevirtual 119, 3) := by decide +kernel
theorem d_Tape_byteAt_12 : decode prog_1_method_14_code 12 = .ok (.goto 11, 3) := by decide +kernel
theorem d_Tape_byteAt_15 : decode prog_1_method_14_code 15 = .ok (.aload_n 0, 1) := by decide +kernel
theorem d_Tape_byteAt_16 : decode prog_1_method_14_code 16 = .ok (.getfield 24, 3) := by decide +kernel
theorem d_Tape_byteAt_19 : decode prog_1_method_14_code 19 = .ok (.iload_n 1, 1) := by decide +kernel
theorem d_Tape_byteAt_20 : decode prog_1_method_14_code 20 = .ok (.invokevirtual 119, 3) := by decide +kernel
theorem d_Tape_byteAt_23 : decode prog_1_method_14_code 23 = .ok (.ireturn, 1) := by decide +kernel
theorem d_Tape_look_0 : decode prog_1_method_15_code 0 = .ok (.iload_n 1, 1) := by decide +kernel
theorem d_Tape_look_1 : decode prog_1_method_15_code 1 = .ok (.tableswitch 99 0 6 #[43, 51, 59, 67, 75, 83, 91], 43) := by decide +kernel
theorem d_Tape_look_44 : decode prog_1_method_15_code 44 = .ok (.aload_n 0, 1) := by decide +kernel
theorem d_Tape_look_45 : decode prog_1_method_15_code 45 = .ok (.getfield 12, 3) := by decide +kernel
theorem d_Tape_look_48 : decode prog_1_method_15_code 48 = .ok (.invokevirtual 62, 3) := by decide +kernel
theorem d_Tape_look_51 : decode prog_1_method_15_code 51 = .ok (.ireturn, 1) := by decide +kernel
theorem d_Tape_look_52 : decode prog_1_method_15_code 52 = .ok (.aload_n 0, 1) := by decide +kernel
theorem d_Tape_look_53 : decode prog_1_method_15_code 53 = .ok (.getfield 12, 3) := by decide +kernel
theorem d_Tape_look_56 : decode prog_1_method_15_code 56 = .ok (.invokevirtual 122, 3) := by decide +kernel
theorem d_Tape_look_59 : decode prog_1_method_15_code 59 = .ok (.ireturn, 1) := by decide +kernel
theorem d_Tape_look_60 : decode prog_1_method_15_code 60 = .ok (.aload_n 0, 1) := by decide +kernel
theorem d_Tape_look_61 : decode prog_1_method_15_code 61 = .ok (.getfield 24, 3) := by decide +kernel
theorem d_Tape_look_64 : decode prog_1_method_15_code 64 = .ok (.invokevirtual 77, 3) := by decide +kernel
theorem d_Tape_look_67 : decode prog_1_method_15_code 67 = .ok (.ireturn, 1) := by decide +kernel
theorem d_Tape_look_68 : decode prog_1_method_15_code 68 = .ok (.aload_n 0, 1) := by decide +kernel
theorem d_Tape_look_69 : decode prog_1_method_15_code 69 = .ok (.getfield 28, 3) := by decide +kernel
theorem d_Tape_look_72 : decode prog_1_method_15_code 72 = .ok (.invokevirtual 77, 3) := by decide +kernel
theorem d_Tape_look_75 : decode prog_1_method_15_code 75 = .ok (.ireturn, 1) := by decide +kernel
theorem d_Tape_look_76 : decode prog_1_method_15_code 76 = .ok (.aload_n 0, 1) := by decide +kernel
theorem d_Tape_look_77 : decode prog_1_method_15_code 77 = .ok (.getfield 36, 3) := by decide +kernel
theorem d_Tape_look_80 : decode prog_1_method_15_code 80 = .ok (.invokevirtual 95, 3) := by decide +kernel
theorem d_Tape_look_83 : decode prog_1_method_15_code 83 = .ok (.ireturn, 1) := by decide +kernel
theorem d_Tape_look_84 : decode prog_1_method_15_code 84 = .ok (.aload_n 0, 1) := by decide +kernel
theorem d_Tape_look_85 : decode prog_1_method_15_code 85 = .ok (.getfield 36, 3) := by decide +kernel
theorem d_Tape_look_88 : decode prog_1_method_15_code 88 = .ok (.invokevirtual 125, 3) := by decide +kernel
theorem d_Tape_look_91 : decode prog_1_method_15_code 91 = .ok (.ireturn, 1) := by decide +kernel
theorem d_Tape_look_92 : decode prog_1_method_15_code 92 = .ok (.aload_n 0, 1) := by decide +kernel
theorem d_Tape_look_93 : decode prog_1_method_15_code 93 = .ok (.getfield 12, 3) := by decide +kernel
theorem d_Tape_look_96 : decode prog_1_method_15_code 96 = .ok (.invokevirtual 128, 3) := by decide +kernel
theorem d_Tape_look_99 : decode prog_1_method_15_code 99 = .ok (.ireturn, 1) := by decide +kernel
theorem d_Tape_look_100 : decode prog_1_method_15_code 100 = .ok (.iconst (-1), 1) := by decide +kernel
theorem d_Tape_look_101 : decode prog_1_method_15_code 101 = .ok (.ireturn, 1) := by decide +kernel
theorem d_Tape_init_0 : decode prog_1_method_1_code 0 = .ok (.aload_n 0, 1) := by decide +kernel
theorem d_Tape_init_1 : decode prog_1_method_1_code 1 = .ok (.invokespecial 3, 3) := by decide +kernel
theorem d_Tape_init_4 : decode prog_1_method_1_code 4 = .ok (.aload_n 0, 1) := by decide +kernel
theorem d_Tape_init_5 : decode prog_1_method_1_code 5 = .ok (.new 9, 3) := by decide +kernel
theorem d_Tape_init_8 : decode prog_1_method_1_code 8 = .ok (.dup, 1) := by decide +kernel
theorem d_Tape_init_9 : decode prog_1_method_1_code 9 = .ok (.invokespecial 11, 3) := by decide +kernel
theorem d_Tape_init_12 : decode prog_1_method_1_code 12 = .ok (.putfield 12, 3) := by decide +kernel
theorem d_Tape_init_15 : decode prog_1_method_1_code 15 = .ok (.aload_n 0, 1) := by decide +kernel
theorem d_Tape_init_16 : decode prog_1_method_1_code 16 = .ok (.new 9, 3) := by decide +kernel
theorem d_Tape_init_19 : decode prog_1_method_1_code 19 = .ok (.dup, 1) := by decide +kernel
theorem d_Tape_init_20 : decode prog_1_method_1_code 20 = .ok (.invokespecial 11, 3) := by decide +kernel
theorem d_Tape_init_23 : decode prog_1_method_1_code 23 = .ok (.putfield 16, 3) := by decide +kernel
theorem d_Tape_init_26 : decode prog_1_method_1_code 26 = .ok (.aload_n 0, 1) := by decide +kernel
theorem d_Tape_init_27 : decode prog_1_method_1_code 27 = .ok (.new 19, 3) := by decide +kernel
theorem d_Tape_init_30 : decode prog_1_method_1_code 30 = .ok (.dup, 1) := by decide +kernel
theorem d_Tape_init_31 : decode prog_1_method_1_code 31 = .ok (.sipush 4110, 3) := by decide +kernel
theorem d_Tape_init_34 : decode prog_1_method_1_code 34 = .ok (.invokespecial 21, 3) := by decide +kernel
theorem d_Tape_init_37 : decode prog_1_method_1_code 37 = .ok (.putfield 24, 3) := by decide +kernel
theorem d_Tape_init_40 : decode prog_1_method_1_code 40 = .ok (.aload_n 0, 1) := by decide +kernel
theorem d_Tape_init_41 : decode prog_1_method_1_code 41 = .ok (.new 19, 3) := by decide +kernel
theorem d_Tape_init_44 : decode prog_1_method_1_code 44 = .ok (.dup, 1) := by decide +kernel
theorem d_Tape_init_45 : decode prog_1_method_1_code 45 = .ok (.sipush 8192, 3) := by decide +kernel
theorem d_Tape_init_48 : decode prog_1_method_1_code 48 = .ok (.invokespecial 21, 3) := by decide +kernel
theorem d_Tape_init_51 : decode prog_1_method_1_code 51 = .ok (.putfield 28, 3) := by decide +kernel
theorem d_Tape_init_54 : decode prog_1_method_1_code 54 = .ok (.aload_n 0, 1) := by decide +kernel
theorem d_Tape_init_55 : decode prog_1_method_1_code 55 = .ok (.new 31, 3) := by decide +kernel
theorem d_Tape_init_58 : decode prog_1_method_1_code 58 = .ok (.dup, 1) := by decide +kernel
theorem d_Tape_init_59 : decode prog_1_method_1_code 59 = .ok (.aload_n 0, 1) := by decide +kernel
theorem d_Tape_init_60 : decode prog_1_method_1_code 60 = .ok (.getfield 28, 3) := by decide +kernel
theorem d_Tape_init_63 : decode prog_1_method_1_code 63 = .ok (.invokespecial 33, 3) := by decide +kernel
theorem d_Tape_init_66 : decode prog_1_method_1_code 66 = .ok (.putfield 36, 3) := by decide +kernel
theorem d_Tape_init_69 : decode prog_1_method_1_code 69 = .ok (.return_, 1) := by decide +kernel
