theorem d_Tape_isWithin_0 : decode prog_1_method_16_code 0 = .ok (.iload_n 0, 1) := by decide +kernel
theorem d_Tape_isWithin_1 : decode prog_1_method_16_code 1 = .ok (.iload_n 1, 1) := by decide +kernel
theorem d_Tape_isWithin_2 : decode prog_1_method_16_code 2 = .ok (.if_icmp .lt 12, 3) := by decide +kernel
theorem d_Tape_isWithin_5 : decode prog_1_method_16_code 5 = .ok (.iload_n 0, 1) := by decide +kernel
theorem d_Tape_isWithin_6 : decode prog_1_method_16_code 6 = .ok (.iload_n 2, 1) := by decide +kernel
theorem d_Tape_isWithin_7 : decode prog_1_method_16_code 7 = .ok (.if_icmp .gt 7, 3) := by decide +kernel
theorem d_Tape_isWithin_10 : decode prog_1_method_16_code 10 = .ok (.iconst 1, 1) := by decide +kernel
theorem d_Tape_isWithin_11 : decode prog_1_method_16_code 11 = .ok (.goto 4, 3) := by decide +kernel
theorem d_Tape_isWithin_14 : decode prog_1_method_16_code 14 = .ok (.iconst 0, 1) := by decide +kernel
theorem d_Tape_isWithin_15 : decode prog_1_method_16_code 15 = .ok (.ireturn, 1) := by decide +kernel
theorem d_Code_of_0 : decode prog_3_method_2_code 0 = .ok (.iload_n 0, 1) := by decide +kernel
theorem d_Code_of_1 : decode prog_3_method_2_code 1 = .ok (.ifCond .eq 8, 3) := by decide +kernel
theorem d_Code_of_4 : decode prog_3_method_2_code 4 = .ok (.ldc 11, 2) := by decide +kernel
theorem d_Code_of_6 : decode prog_3_method_2_code 6 = .ok (.goto 4, 3) := by decide +kernel
theorem d_Code_of_9 : decode prog_3_method_2_code 9 = .ok (.iconst 0, 1) := by decide +kernel
theorem d_Code_of_10 : decode prog_3_method_2_code 10 = .ok (.iload_n 1, 1) := by decide +kernel
theorem d_Code_of_11 : decode prog_3_method_2_code 11 = .ok (.bipush 16, 2) := by decide +kernel
theorem d_Code_of_13 : decode prog_3_method_2_code 13 = .ok (.ishl, 1) := by decide +kernel
theorem d_Code_of_14 : decode prog_3_method_2_code 14 = .ok (.ior, 1) := by decide +kernel
theorem d_Code_of_15 : decode prog_3_method_2_code 15 = .ok (.iload_n 2, 1) := by decide +kernel
theorem d_Code_of_16 : decode prog_3_method_2_code 16 = .ok (.bipush 8, 2) := by decide +kernel
theorem d_Code_of_18 : decode prog_3_method_2_code 18 = .ok (.ishl, 1) := by decide +kernel
theorem d_Code_of_19 : decode prog_3_method_2_code 19 = .ok (.ior, 1) := by decide +kernel
theorem d_Code_of_20 : decode prog_3_method_2_code 20 = .ok (.iload_n 3, 1) := by decide +kernel
theorem d_Code_of_21 : decode prog_3_method_2_code 21 = .ok (.ior, 1) := by decide +kernel
theorem d_Code_of_22 : decode prog_3_method_2_code 22 = .ok (.ireturn, 1) := by decide +kernel
theorem d_Code_uses_0 : decode prog_3_method_3_code 0 = .ok (.iload_n 0, 1) := by decide +kernel
theorem d_Code_uses_1 : decode prog_3_method_3_code 1 = .ok (.ldc 11, 2) := by decide +kernel
theorem d_Code_uses_3 : decode prog_3_method_3_code 3 = .ok (.iand, 1) := by decide +kernel
theorem d_Code_uses_4 : decode prog_3_method_3_code 4 = .ok (.ifCond .eq 7, 3) := by decide +kernel
theorem d_Code_uses_7 : decode prog_3_method_3_code 7 = .ok (.iconst 1, 1) := by decide +kernel
theorem d_Code_uses_8 : decode prog_3_method_3_code 8 = .ok (.goto 4, 3) := by decide +kernel
theorem d_Code_uses_11 : decode prog_3_method_3_code 11 = .ok (.iconst 0, 1) := by decide +kernel
theorem d_Code_uses_12 : decode prog_3_method_3_code 12 = .ok (.ireturn, 1) := by decide +kernel
theorem d_Code_aheadByte_0 : decode prog_3_method_4_code 0 = .ok (.iload_n 0, 1) := by decide +kernel
theorem d_Code_aheadByte_1 : decode prog_3_method_4_code 1 = .ok (.bipush 16, 2) := by decide +kernel
theorem d_Code_aheadByte_3 : decode prog_3_method_4_code 3 = .ok (.ishr, 1) := by decide +kernel
theorem d_Code_aheadByte_4 : decode prog_3_method_4_code 4 = .ok (.sipush 255, 3) := by decide +kernel
theorem d_Code_aheadByte_7 : decode prog_3_method_4_code 7 = .ok (.iand, 1) := by decide +kernel
theorem d_Code_aheadByte_8 : decode prog_3_method_4_code 8 = .ok (.ireturn, 1) := by decide +kernel
theorem d_Code_asideByte_0 : decode prog_3_method_5_code 0 = .ok (.iload_n 0, 1) := by decide +kernel
theorem d_Code_asideByte_1 : decode prog_3_method_5_code 1 = .ok (.bipush 8, 2) := by decide +kernel
theorem d_Code_asideByte_3 : decode prog_3_method_5_code 3 = .ok (.ishr, 1) := by decide +kernel
theorem d_Code_asideByte_4 : decode prog_3_method_5_code 4 = .ok (.sipush 255, 3) := by decide +kernel
theorem d_Code_asideByte_7 : decode prog_3_method_5_code 7 = .ok (.iand, 1) := by decide +kernel
theorem d_Code_asideByte_8 : decode prog_3_method_5_code 8 = .ok (.ireturn, 1) := by decide +kernel
theorem d_Code_turnByte_0 : decode prog_3_method_6_code 0 = .ok (.iload_n 0, 1) := by decide +kernel
theorem d_Code_turnByte_1 : decode prog_3_method_6_code 1 = .ok (.sipush 255, 3) := by decide +kernel
theorem d_Code_turnByte_4 : decode prog_3_method_6_code 4 = .ok (.iand, 1) := by decide +kernel
theorem d_Code_turnByte_5 : decode prog_3_method_6_code 5 = .ok (.ireturn, 1) := by decide +kernel
theorem d_Code_hasSide_0 : decode prog_3_method_7_code 0 = .ok (.iload_n 0, 1) := by decide +kernel
theorem d_Code_hasSide_1 : decode prog_3_method_7_code 1 = .ok (.invokestatic 12, 3) := by decide +kernel
theorem d_Code_hasSide_4 : decode prog_3_method_7_code 4 = .ok (.bipush 64, 2) := by decide +kernel
theorem d_Code_hasSide_6 : decode prog_3_method_7_code 6 = .ok (.if_icmp .ne 12, 3) := by decide +kernel
theorem d_Code_hasSide_9 : decode prog_3_method_7_code 9 = .ok (.iload_n 0, 1) := by decide +kernel
theorem d_Code_hasSide_10 : decode prog_3_method_7_code 10 = .ok (.invokestatic 16, 3) := by decide +kernel
theorem d_Code_hasSide_13 : decode prog_3_method_7_code 13 = .ok (.bipush 16, 2) := by decide +kernel
theorem d_Code_hasSide_15 : decode prog_3_method_7_code 15 = .ok (.if_icmp .eq 7, 3) := by decide +kernel
theorem d_Code_hasSide_18 : decode prog_3_method_7_code 18 = .ok (.iconst 1, 1) := by decide +kernel
theorem d_Code_hasSide_19 : decode prog_3_method_7_code 19 = .ok (.goto 4, 3) := by decide +kernel
theorem d_Code_hasSide_22 : decode prog_3_method_7_code 22 = .ok (.iconst 0, 1) := by decide +kernel
theorem d_Code_hasSide_23 : decode prog_3_method_7_code 23 = .ok (.ireturn, 1) := by decide +kernel
theorem d_Walk_count_0 : decode prog_5_method_2_code 0 = .ok (.aload_n 0, 1) := by decide +kernel
theorem d_Walk_count_1 : decode prog_5_method_2_code 1 = .ok (.getfield 15, 3) := by decide +kernel
theorem d_Walk_count_4 : decode prog_5_method_2_code 4 = .ok (.ireturn, 1) := by decide +kernel
theorem d_Walk_room_0 : decode prog_5_method_3_code 0 = .ok (.aload_n 0, 1) := by decide +kernel
theorem d_Walk_room_1 : decode prog_5_method_3_code 1 = .ok (.getfield 9, 3) := by decide +kernel
theorem d_Walk_room_4 : decode prog_5_method_3_code 4 = .ok (.arraylength, 1) := by decide +kernel
theorem d_Walk_room_5 : decode prog_5_method_3_code 5 = .ok (.aload_n 0, 1) := by decide +kernel
theorem d_Walk_room_6 : decode prog_5_method_3_code 6 = .ok (.getfield 15, 3) := by decide +kernel
theorem d_Walk_room_9 : decode prog_5_method_3_code 9 = .ok (.isub, 1) := by decide +kernel
theorem d_Walk_room_10 : decode prog_5_method_3_code 10 = .ok (.ireturn, 1) := by decide +kernel
theorem d_Walk_codeAt_0 : decode prog_5_method_4_code 0 = .ok (.iload_n 1, 1) := by decide +kernel
theorem d_Walk_codeAt_1 : decode prog_5_method_4_code 1 = .ok (.ifCond .lt 29, 3) := by decide +kernel
theorem d_Walk_codeAt_4 : decode prog_5_method_4_code 4 = .ok (.iload_n 1, 1) := by decide +kernel
theorem d_Walk_codeAt_5 : decode prog_5_method_4_code 5 = .ok (.aload_n 0, 1) := by decide +kernel
theorem d_Walk_codeAt_6 : decode prog_5_method_4_code 6 = .ok (.getfield 15, 3) := by decide +kernel
theorem d_Walk_codeAt_9 : decode prog_5_method_4_code 9 = .ok (.if_icmp .ge 21, 3) := by decide +kernel
theorem d_Walk_codeAt_12 : decode prog_5_method_4_code 12 = .ok (.iload_n 1, 1) := by decide +kernel
theorem d_Walk_codeAt_13 : decode prog_5_method_4_code 13 = .ok (.aload_n 0, 1) := by decide +kernel
theorem d_Walk_codeAt_14 : decode prog_5_method_4_code 14 = .ok (.getfield 9, 3) := by decide +kernel
theorem d_Walk_codeAt_17 : decode prog_5_method_4_code 17 = .ok (.arraylength, 1) := by decide +kernel
theorem d_Walk_codeAt_18 : decode prog_5_method_4_code 18 = .ok (.if_icmp .ge 12, 3) := by decide +kernel
theorem d_Walk_codeAt_21 : decode prog_5_method_4_code 21 = .ok (.aload_n 0, 1) := by decide +kernel
theorem d_Walk_codeAt_22 : decode prog_5_method_4_code 22 = .ok (.getfield 9, 3) := by decide +kernel
theorem d_Walk_codeAt_25 : decode prog_5_method_4_code 25 = .ok (.iload_n 1, 1) := by decide +kernel
theorem d_Walk_codeAt_26 : decode prog_5_method_4_code 26 = .ok (.iaload, 1) := by decide +kernel
theorem d_Walk_codeAt_27 : decode prog_5_method_4_code 27 = .ok (.goto 4, 3) := by decide +kernel
theorem d_Walk_codeAt_30 : decode prog_5_method_4_code 30 = .ok (.iconst (-1), 1) := by decide +kernel
theorem d_Walk_codeAt_31 : decode prog_5_method_4_code 31 = .ok (.ireturn, 1) := by decide +kernel
theorem d_Walk_setStart_0 : decode prog_5_method_5_code 0 = .ok (.aload_n 0, 1) := by decide +kernel
theorem d_Walk_setStart_1 : decode prog_5_method_5_code 1 = .ok (.iload_n 1, 1) := by decide +kernel
theorem d_Walk_setStart_2 : decode prog_5_method_5_code 2 = .ok (.putfield 19, 3) := by decide +kernel
theorem d_Walk_setStart_5 : decode prog_5_method_5_code 5 = .ok (.aload_n 0, 1) := by decide +kernel
theorem d_Walk_setStart_6 : decode prog_5_method_5_code 6 = .ok (.iload_n 2, 1) := by decide +kernel
theorem d_Walk_setStart_7 : decode prog_5_method_5_code 7 = .ok (.putfield 22, 3) := by decide +kernel
theorem d_Walk_setStart_10 : decode prog_5_method_5_code 10 = .ok (.aload_n 0, 1) := by decide +kernel
theorem d_Walk_setStart_11 : decode prog_5_method_5_code 11 = .ok (.iload_n 3, 1) := by decide +kernel
theorem d_Walk_setStart_12 : decode prog_5_method_5_code 12 = .ok (.putfield 25, 3) := by decide +kernel
theorem d_Walk_setStart_15 : decode prog_5_method_5_code 15 = .ok (.aload_n 0, 1) := by decide +kernel
theorem d_Walk_setStart_16 : decode prog_5_method_5_code 16 = .ok (.iload 4, 2) := by decide +kernel
theorem d_Walk_setStart_18 : decode prog_5_method_5_code 18 = .ok (.putfield 28, 3) := by decide +kernel
theorem d_Walk_setStart_21 : decode prog_5_method_5_code 21 = .ok (.return_, 1) := by decide +kernel
theorem d_Walk_startPart_0 : decode prog_5_method_6_code 0 = .ok (.iload_n 1, 1) := by decide +kernel
theorem d_Walk_startPart_1 : decode prog_5_method_6_code 1 = .ok (.tableswitch 51 0 3 #[31, 36, 41, 46], 31) := by decide +kernel
theorem d_Walk_startPart_32 : decode prog_5_method_6_code 32 = .ok (.aload_n 0, 1) := by decide +kernel
theorem d_Walk_startPart_33 : decode prog_5_method_6_code 33 = .ok (.getfield 19, 3) := by decide +kernel
theorem d_Walk_startPart_36 : decode prog_5_method_6_code 36 = .ok (.ireturn, 1) := by decide +kernel
theorem d_Walk_startPart_37 : decode prog_5_method_6_code 37 = .ok (.aload_n 0, 1) := by decide +kernel
theorem d_Walk_startPart_38 : decode prog_5_method_6_code 38 = .ok (.getfield 22, 3) := by decide +kernel
theorem d_Walk_startPart_41 : decode prog_5_method_6_code 41 = .ok (.ireturn, 1) := by decide +kernel
theorem d_Walk_startPart_42 : decode prog_5_method_6_code 42 = .ok (.aload_n 0, 1) := by decide +kernel
theorem d_Walk_startPart_43 : decode prog_5_method_6_code 43 = .ok (.getfield 25, 3) := by decide +kernel
theorem d_Walk_startPart_46 : decode prog_5_method_6_code 46 = .ok (.ireturn, 1) := by decide +kernel
theorem d_Walk_startPart_47 : decode prog_5_method_6_code 47 = .ok (.aload_n 0, 1) := by decide +kernel
theorem d_Walk_startPart_48 : decode prog_5_method_6_code 48 = .ok (.getfield 28, 3) := by decide +kernel
theorem d_Walk_startPart_51 : decode prog_5_method_6_code 51 = .ok (.ireturn, 1) := by decide +kernel
theorem d_Walk_startPart_52 : decode prog_5_method_6_code 52 = .ok (.ldc 31, 2) := by decide +kernel
theorem d_Walk_startPart_54 : decode prog_5_method_6_code 54 = .ok (.ireturn, 1) := by decide +kernel
theorem d_Walk_append_0 : decode prog_5_method_7_code 0 = .ok (.aload_n 0, 1) := by decide +kernel
theorem d_Walk_append_1 : decode prog_5_method_7_code 1 = .ok (.getfield 15, 3) := by decide +kernel
theorem d_Walk_append_4 : decode prog_5_method_7_code 4 = .ok (.iload_n 2, 1) := by decide +kernel
theorem d_Walk_append_5 : decode prog_5_method_7_code 5 = .ok (.iadd, 1) := by decide +kernel
theorem d_Walk_append_6 : decode prog_5_method_7_code 6 = .ok (.aload_n 0, 1) := by decide +kernel
theorem d_Walk_append_7 : decode prog_5_method_7_code 7 = .ok (.getfield 9, 3) := by decide +kernel
theorem d_Walk_append_10 : decode prog_5_method_7_code 10 = .ok (.arraylength, 1) := by decide +kernel
theorem d_Walk_append_11 : decode prog_5_method_7_code 11 = .ok (.invokestatic 32, 3) := by decide +kernel
theorem d_Walk_append_14 : decode prog_5_method_7_code 14 = .ok (.istore_n 3, 1) := by decide +kernel
theorem d_Walk_append_15 : decode prog_5_method_7_code 15 = .ok (.aload_n 0, 1) := by decide +kernel
theorem d_Walk_append_16 : decode prog_5_method_7_code 16 = .ok (.getfield 15, 3) := by decide +kernel
theorem d_Walk_append_19 : decode prog_5_method_7_code 19 = .ok (.istore 4, 2) := by decide +kernel
theorem d_Walk_append_21 : decode prog_5_method_7_code 21 = .ok (.iload 4, 2) := by decide +kernel
theorem d_Walk_append_23 : decode prog_5_method_7_code 23 = .ok (.iload_n 3, 1) := by decide +kernel
theorem d_Walk_append_24 : decode prog_5_method_7_code 24 = .ok (.if_icmp .ge 17, 3) := by decide +kernel
theorem d_Walk_append_27 : decode prog_5_method_7_code 27 = .ok (.aload_n 0, 1) := by decide +kernel
theorem d_Walk_append_28 : decode prog_5_method_7_code 28 = .ok (.getfield 9, 3) := by decide +kernel
theorem d_Walk_append_31 : decode prog_5_method_7_code 31 = .ok (.iload 4, 2) := by decide +kernel
theorem d_Walk_append_33 : decode prog_5_method_7_code 33 = .ok (.iload_n 1, 1) := by decide +kernel
theorem d_Walk_append_34 : decode prog_5_method_7_code 34 = .ok (.iastore, 1) := by decide +kernel
theorem d_Walk_append_35 : decode prog_5_method_7_code 35 = .ok (.iinc 4 1, 3) := by decide +kernel
theorem d_Walk_append_38 : decode prog_5_method_7_code 38 = .ok (.goto (-17), 3) := by decide +kernel
theorem d_Walk_append_41 : decode prog_5_method_7_code 41 = .ok (.aload_n 0, 1) := by decide +kernel
theorem d_Walk_append_42 : decode prog_5_method_7_code 42 = .ok (.iload_n 3, 1) := by decide +kernel
theorem d_Walk_append_43 : decode prog_5_method_7_code 43 = .ok (.putfield 15, 3) := by decide +kernel
theorem d_Walk_append_46 : decode prog_5_method_7_code 46 = .ok (.return_, 1) := by decide +kernel
theorem d_Walk_repeat_0 : decode prog_5_method_8_code 0 = .ok (.iconst 0, 1) := by decide +kernel
theorem d_Walk_repeat_1 : decode prog_5_method_8_code 1 = .ok (.istore_n 3, 1) := by decide +kernel
theorem d_Walk_repeat_2 : decode prog_5_method_8_code 2 = .ok (.iload_n 3, 1) := by decide +kernel
theorem d_Walk_repeat_3 : decode prog_5_method_8_code 3 = .ok (.iload_n 2, 1) := by decide +kernel
theorem d_Walk_repeat_4 : decode prog_5_method_8_code 4 = .ok (.if_icmp .ge 21, 3) := by decide +kernel
theorem d_Walk_repeat_7 : decode prog_5_method_8_code 7 = .ok (.aload_n 0, 1) := by decide +kernel
theorem d_Walk_repeat_8 : decode prog_5_method_8_code 8 = .ok (.aload_n 0, 1) := by decide +kernel
theorem d_Walk_repeat_9 : decode prog_5_method_8_code 9 = .ok (.iload_n 1, 1) := by decide +kernel
theorem d_Walk_repeat_10 : decode prog_5_method_8_code 10 = .ok (.iload_n 3, 1) := by decide +kernel
theorem d_Walk_repeat_11 : decode prog_5_method_8_code 11 = .ok (.iadd, 1) := by decide +kernel
theorem d_Walk_repeat_12 : decode prog_5_method_8_code 12 = .ok (.invokevirtual 38, 3) := by decide +kernel
theorem d_Walk_repeat_15 : decode prog_5_method_8_code 15 = .ok (.iconst 1, 1) := by decide +kernel
theorem d_Walk_repeat_16 : decode prog_5_method_8_code 16 = .ok (.invokevirtual 42, 3) := by decide +kernel
theorem d_Walk_repeat_19 : decode prog_5_method_8_code 19 = .ok (.iinc 3 1, 3) := by decide +kernel
theorem d_Walk_repeat_22 : decode prog_5_method_8_code 22 = .ok (.goto (-20), 3) := by decide +kernel
theorem d_Walk_repeat_25 : decode prog_5_method_8_code 25 = .ok (.return_, 1) := by decide +kernel
theorem d_Walk_dropLast_0 : decode prog_5_method_9_code 0 = .ok (.aload_n 0, 1) := by decide +kernel
theorem d_Walk_dropLast_1 : decode prog_5_method_9_code 1 = .ok (.aload_n 0, 1) := by decide +kernel
theorem d_Walk_dropLast_2 : decode prog_5_method_9_code 2 = .ok (.getfield 15, 3) := by decide +kernel
theorem d_Walk_dropLast_5 : decode prog_5_method_9_code 5 = .ok (.iload_n 1, 1) := by decide +kernel
theorem d_Walk_dropLast_6 : decode prog_5_method_9_code 6 = .ok (.isub, 1) := by decide +kernel
theorem d_Walk_dropLast_7 : decode prog_5_method_9_code 7 = .ok (.iconst 0, 1) := by decide +kernel
theorem d_Walk_dropLast_8 : decode prog_5_method_9_code 8 = .ok (.invokestatic 46, 3) := by decide +kernel
theorem d_Walk_dropLast_11 : decode prog_5_method_9_code 11 = .ok (.putfield 15, 3) := by decide +kernel
theorem d_Walk_dropLast_14 : decode prog_5_method_9_code 14 = .ok (.return_, 1) := by decide +kernel
theorem d_Walk_clear_0 : decode prog_5_method_10_code 0 = .ok (.aload_n 0, 1) := by decide +kernel
theorem d_Walk_clear_1 : decode prog_5_method_10_code 1 = .ok (.iconst 0, 1) := by decide +kernel
theorem d_Walk_clear_2 : decode prog_5_method_10_code 2 = .ok (.putfield 15, 3) := by decide +kernel
theorem d_Walk_clear_5 : decode prog_5_method_10_code 5 = .ok (.return_, 1) := by decide +kernel
theorem d_Walk_countUses_0 : decode prog_5_method_11_code 0 = .ok (.iconst 0, 1) := by decide +kernel
theorem d_Walk_countUses_1 : decode prog_5_method_11_code 1 = .ok (.istore_n 1, 1) := by decide +kernel
theorem d_Walk_countUses_2 : decode prog_5_method_11_code 2 = .ok (.iconst 0, 1) := by decide +kernel
theorem d_Walk_countUses_3 : decode prog_5_method_11_code 3 = .ok (.istore_n 2, 1) := by decide +kernel
theorem d_Walk_countUses_4 : decode prog_5_method_11_code 4 = .ok (.iload_n 2, 1) := by decide +kernel
theorem d_Walk_countUses_5 : decode prog_5_method_11_code 5 = .ok (.aload_n 0, 1) := by decide +kernel
theorem d_Walk_countUses_6 : decode prog_5_method_11_code 6 = .ok (.getfield 15, 3) := by decide +kernel
theorem d_Walk_countUses_9 : decode prog_5_method_11_code 9 = .ok (.if_icmp .ge 23, 3) := by decide +kernel
theorem d_Walk_countUses_12 : decode prog_5_method_11_code 12 = .ok (.aload_n 0, 1) := by decide +kernel
theorem d_Walk_countUses_13 : decode prog_5_method_11_code 13 = .ok (.iload_n 2, 1) := by decide +kernel
theorem d_Walk_countUses_14 : decode prog_5_method_11_code 14 = .ok (.invokevirtual 38, 3) := by decide +kernel
theorem d_Walk_countUses_17 : decode prog_5_method_11_code 17 = .ok (.invokestatic 49, 3) := by decide +kernel
theorem d_Walk_countUses_20 : decode prog_5_method_11_code 20 = .ok (.ifCond .eq 6, 3) := by decide +kernel
theorem d_Walk_countUses_23 : decode prog_5_method_11_code 23 = .ok (.iinc 1 1, 3) := by decide +kernel
theorem d_Walk_countUses_26 : decode prog_5_method_11_code 26 = .ok (.iinc 2 1, 3) := by decide +kernel
theorem d_Walk_countUses_29 : decode prog_5_method_11_code 29 = .ok (.goto (-25), 3) := by decide +kernel
theorem d_Walk_countUses_32 : decode prog_5_method_11_code 32 = .ok (.iload_n 1, 1) := by decide +kernel
theorem d_Walk_countUses_33 : decode prog_5_method_11_code 33 = .ok (.ireturn, 1) := by decide +kernel
theorem d_Walk_endsGroup_0 : decode prog_5_method_13_code 0 = .ok (.iload_n 2, 1) := by decide +kernel
theorem d_Walk_endsGroup_1 : decode prog_5_method_13_code 1 = .ok (.bipush 63, 2) := by decide +kernel
theorem d_Walk_endsGroup_3 : decode prog_5_method_13_code 3 = .ok (.if_icmp .eq 18, 3) := by decide +kernel
theorem d_Walk_endsGroup_6 : decode prog_5_method_13_code 6 = .ok (.aload_n 0, 1) := by decide +kernel
theorem d_Walk_endsGroup_7 : decode prog_5_method_13_code 7 = .ok (.iload_n 1, 1) := by decide +kernel
theorem d_Walk_endsGroup_8 : decode prog_5_method_13_code 8 = .ok (.iconst 1, 1) := by decide +kernel
theorem d_Walk_endsGroup_9 : decode prog_5_method_13_code 9 = .ok (.iadd, 1) := by decide +kernel
theorem d_Walk_endsGroup_10 : decode prog_5_method_13_code 10 = .ok (.invokevirtual 38, 3) := by decide +kernel
theorem d_Walk_endsGroup_13 : decode prog_5_method_13_code 13 = .ok (.aload_n 0, 1) := by decide +kernel
theorem d_Walk_endsGroup_14 : decode prog_5_method_13_code 14 = .ok (.iload_n 1, 1) := by decide +kernel
theorem d_Walk_endsGroup_15 : decode prog_5_method_13_code 15 = .ok (.invokevirtual 38, 3) := by decide +kernel
theorem d_Walk_endsGroup_18 : decode prog_5_method_13_code 18 = .ok (.if_icmp .eq 7, 3) := by decide +kernel
theorem d_Walk_endsGroup_21 : decode prog_5_method_13_code 21 = .ok (.iconst 1, 1) := by decide +kernel
theorem d_Walk_endsGroup_22 : decode prog_5_method_13_code 22 = .ok (.goto 4, 3) := by decide +kernel
theorem d_Walk_endsGroup_25 : decode prog_5_method_13_code 25 = .ok (.iconst 0, 1) := by decide +kernel
theorem d_Walk_endsGroup_26 : decode prog_5_method_13_code 26 = .ok (.ireturn, 1) := by decide +kernel
theorem d_Walk_countGroups_0 : decode prog_5_method_12_code 0 = .ok (.iconst 0, 1) := by decide +kernel
theorem d_Walk_countGroups_1 : decode prog_5_method_12_code 1 = .ok (.istore_n 1, 1) := by decide +kernel
theorem d_Walk_countGroups_2 : decode prog_5_method_12_code 2 = .ok (.iconst 0, 1) := by decide +kernel
theorem d_Walk_countGroups_3 : decode prog_5_method_12_code 3 = .ok (.istore_n 2, 1) := by decide +kernel
theorem d_Walk_countGroups_4 : decode prog_5_method_12_code 4 = .ok (.iconst 0, 1) := by decide +kernel
theorem d_Walk_countGroups_5 : decode prog_5_method_12_code 5 = .ok (.istore_n 3, 1) := by decide +kernel
theorem d_Walk_countGroups_6 : decode prog_5_method_12_code 6 = .ok (.iload_n 3, 1) := by decide +kernel
theorem d_Walk_countGroups_7 : decode prog_5_method_12_code 7 = .ok (.aload_n 0, 1) := by decide +kernel
theorem d_Walk_countGroups_8 : decode prog_5_method_12_code 8 = .ok (.getfield 15, 3) := by decide +kernel
theorem d_Walk_countGroups_11 : decode prog_5_method_12_code 11 = .ok (.if_icmp .ge 26, 3) := by decide +kernel
theorem d_Walk_countGroups_14 : decode prog_5_method_12_code 14 = .ok (.iinc 2 1, 3) := by decide +kernel
theorem d_Walk_countGroups_17 : decode prog_5_method_12_code 17 = .ok (.aload_n 0, 1) := by decide +kernel
theorem d_Walk_countGroups_18 : decode prog_5_method_12_code 18 = .ok (.iload_n 3, 1) := by decide +kernel
theorem d_Walk_countGroups_19 : decode prog_5_method_12_code 19 = .ok (.iload_n 2, 1) := by decide +kernel
theorem d_Walk_countGroups_20 : decode prog_5_method_12_code 20 = .ok (.invokevirtual 55, 3) := by decide +kernel
theorem d_Walk_countGroups_23 : decode prog_5_method_12_code 23 = .ok (.ifCond .eq 8, 3) := by decide +kernel
theorem d_Walk_countGroups_26 : decode prog_5_method_12_code 26 = .ok (.iinc 1 1, 3) := by decide +kernel
theorem d_Walk_countGroups_29 : decode prog_5_method_12_code 29 = .ok (.iconst 0, 1) := by decide +kernel
theorem d_Walk_countGroups_30 : decode prog_5_method_12_code 30 = .ok (.istore_n 2, 1) := by decide +kernel
theorem d_Walk_countGroups_31 : decode prog_5_method_12_code 31 = .ok (.iinc 3 1, 3) := by decide +kernel
theorem d_Walk_countGroups_34 : decode prog_5_method_12_code 34 = .ok (.goto (-28), 3) := by decide +kernel
theorem d_Walk_countGroups_37 : decode prog_5_method_12_code 37 = .ok (.iload_n 1, 1) := by decide +kernel
theorem d_Walk_countGroups_38 : decode prog_5_method_12_code 38 = .ok (.ireturn, 1) := by decide +kernel
theorem d_Row_size_0 : decode prog_2_method_2_code 0 = .ok (.aload_n 0, 1) := by decide +kernel
theorem d_Row_size_1 : decode prog_2_method_2_code 1 = .ok (.getfield 21, 3) := by decide +kernel
theorem d_Row_size_4 : decode prog_2_method_2_code 4 = .ok (.ireturn, 1) := by decide +kernel
theorem d_Row_room_0 : decode prog_2_method_3_code 0 = .ok (.aload_n 0, 1) := by decide +kernel
theorem d_Row_room_1 : decode prog_2_method_3_code 1 = .ok (.getfield 15, 3) := by decide +kernel
theorem d_Row_room_4 : decode prog_2_method_3_code 4 = .ok (.arraylength, 1) := by decide +kernel
theorem d_Row_room_5 : decode prog_2_method_3_code 5 = .ok (.aload_n 0, 1) := by decide +kernel
theorem d_Row_room_6 : decode prog_2_method_3_code 6 = .ok (.getfield 21, 3) := by decide +kernel
theorem d_Row_room_9 : decode prog_2_method_3_code 9 = .ok (.isub, 1) := by decide +kernel
theorem d_Row_room_10 : decode prog_2_method_3_code 10 = .ok (.ireturn, 1) := by decide +kernel
theorem d_Row_get_0 : decode prog_2_method_4_code 0 = .ok (.iload_n 1, 1) := by decide +kernel
theorem d_Row_get_1 : decode prog_2_method_4_code 1 = .ok (.ifCond .lt 33, 3) := by decide +kernel
theorem d_Row_get_4 : decode prog_2_method_4_code 4 = .ok (.iload_n 1, 1) := by decide +kernel
theorem d_Row_get_5 : decode prog_2_method_4_code 5 = .ok (.aload_n 0, 1) := by decide +kernel
theorem d_Row_get_6 : decode prog_2_method_4_code 6 = .ok (.getfield 21, 3) := by decide +kernel
theorem d_Row_get_9 : decode prog_2_method_4_code 9 = .ok (.if_icmp .ge 25, 3) := by decide +kernel
theorem d_Row_get_12 : decode prog_2_method_4_code 12 = .ok (.iload_n 1, 1) := by decide +kernel
theorem d_Row_get_13 : decode prog_2_method_4_code 13 = .ok (.aload_n 0, 1) := by decide +kernel
theorem d_Row_get_14 : decode prog_2_method_4_code 14 = .ok (.getfield 15, 3) := by decide +kernel
theorem d_Row_get_17 : decode prog_2_method_4_code 17 = .ok (.arraylength, 1) := by decide +kernel
theorem d_Row_get_18 : decode prog_2_method_4_code 18 = .ok (.if_icmp .ge 16, 3) := by decide +kernel
theorem d_Row_get_21 : decode prog_2_method_4_code 21 = .ok (.aload_n 0, 1) := by decide +kernel
theorem d_Row_get_22 : decode prog_2_method_4_code 22 = .ok (.getfield 15, 3) := by decide +kernel
theorem d_Row_get_25 : decode prog_2_method_4_code 25 = .ok (.iload_n 1, 1) := by decide +kernel
theorem d_Row_get_26 : decode prog_2_method_4_code 26 = .ok (.baload, 1) := by decide +kernel
theorem d_Row_get_27 : decode prog_2_method_4_code 27 = .ok (.sipush 255, 3) := by decide +kernel
theorem d_Row_get_30 : decode prog_2_method_4_code 30 = .ok (.iand, 1) := by decide +kernel
theorem d_Row_get_31 : decode prog_2_method_4_code 31 = .ok (.goto 4, 3) := by decide +kernel
theorem d_Row_get_34 : decode prog_2_method_4_code 34 = .ok (.iconst (-1), 1) := by decide +kernel
theorem d_Row_get_35 : decode prog_2_method_4_code 35 = .ok (.ireturn, 1) := by decide +kernel
theorem d_Row_set_0 : decode prog_2_method_5_code 0 = .ok (.iload_n 1, 1) := by decide +kernel
theorem d_Row_set_1 : decode prog_2_method_5_code 1 = .ok (.ifCond .lt 28, 3) := by decide +kernel
theorem d_Row_set_4 : decode prog_2_method_5_code 4 = .ok (.iload_n 1, 1) := by decide +kernel
theorem d_Row_set_5 : decode prog_2_method_5_code 5 = .ok (.aload_n 0, 1) := by decide +kernel
theorem d_Row_set_6 : decode prog_2_method_5_code 6 = .ok (.getfield 21, 3) := by decide +kernel
theorem d_Row_set_9 : decode prog_2_method_5_code 9 = .ok (.if_icmp .ge 20, 3) := by decide +kernel
theorem d_Row_set_12 : decode prog_2_method_5_code 12 = .ok (.iload_n 1, 1) := by decide +kernel
theorem d_Row_set_13 : decode prog_2_method_5_code 13 = .ok (.aload_n 0, 1) := by decide +kernel
theorem d_Row_set_14 : decode prog_2_method_5_code 14 = .ok (.getfield 15, 3) := by decide +kernel
theorem d_Row_set_17 : decode prog_2_method_5_code 17 = .ok (.arraylength, 1) := by decide +kernel
theorem d_Row_set_18 : decode prog_2_method_5_code 18 = .ok (.if_icmp .ge 11, 3) := by decide +kernel
theorem d_Row_set_21 : decode prog_2_method_5_code 21 = .ok (.aload_n 0, 1) := by decide +kernel
theorem d_Row_set_22 : decode prog_2_method_5_code 22 = .ok (.getfield 15, 3) := by decide +kernel
theorem d_Row_set_25 : decode prog_2_method_5_code 25 = .ok (.iload_n 1, 1) := by decide +kernel
theorem d_Row_set_26 : decode prog_2_method_5_code 26 = .ok (.iload_n 2, 1) := by decide +kernel
theorem d_Row_set_27 : decode prog_2_method_5_code 27 = .ok (.i2b, 1) := by decide +kernel
theorem d_Row_set_28 : decode prog_2_method_5_code 28 = .ok (.bastore, 1) := by decide +kernel
theorem d_Row_set_29 : decode prog_2_method_5_code 29 = .ok (.return_, 1) := by decide +kernel
theorem d_Row_addLowest_0 : decode prog_2_method_6_code 0 = .ok (.iload_n 3, 1) := by decide +kernel
theorem d_Row_addLowest_1 : decode prog_2_method_6_code 1 = .ok (.iconst 1, 1) := by decide +kernel
theorem d_Row_addLowest_2 : decode prog_2_method_6_code 2 = .ok (.isub, 1) := by decide +kernel
theorem d_Row_addLowest_3 : decode prog_2_method_6_code 3 = .ok (.istore 4, 2) := by decide +kernel
theorem d_Row_addLowest_5 : decode prog_2_method_6_code 5 = .ok (.iload 4, 2) := by decide +kernel
theorem d_Row_addLowest_7 : decode prog_2_method_6_code 7 = .ok (.ifCond .lt 49, 3) := by decide +kernel
theorem d_Row_addLowest_10 : decode prog_2_method_6_code 10 = .ok (.aload_n 0, 1) := by decide +kernel
theorem d_Row_addLowest_11 : decode prog_2_method_6_code 11 = .ok (.getfield 21, 3) := by decide +kernel
theorem d_Row_addLowest_14 : decode prog_2_method_6_code 14 = .ok (.aload_n 0, 1) := by decide +kernel
theorem d_Row_addLowest_15 : decode prog_2_method_6_code 15 = .ok (.getfield 15, 3) := by decide +kernel
theorem d_Row_addLowest_18 : decode prog_2_method_6_code 18 = .ok (.arraylength, 1) := by decide +kernel
theorem d_Row_addLowest_19 : decode prog_2_method_6_code 19 = .ok (.if_icmp .ge 37, 3) := by decide +kernel
theorem d_Row_addLowest_22 : decode prog_2_method_6_code 22 = .ok (.aload_n 0, 1) := by decide +kernel
theorem d_Row_addLowest_23 : decode prog_2_method_6_code 23 = .ok (.getfield 15, 3) := by decide +kernel
theorem d_Row_addLowest_26 : decode prog_2_method_6_code 26 = .ok (.aload_n 0, 1) := by decide +kernel
theorem d_Row_addLowest_27 : decode prog_2_method_6_code 27 = .ok (.getfield 21, 3) := by decide +kernel
theorem d_Row_addLowest_30 : decode prog_2_method_6_code 30 = .ok (.lload_n 1, 1) := by decide +kernel
theorem d_Row_addLowest_31 : decode prog_2_method_6_code 31 = .ok (.bipush 8, 2) := by decide +kernel
theorem d_Row_addLowest_33 : decode prog_2_method_6_code 33 = .ok (.iload 4, 2) := by decide +kernel
theorem d_Row_addLowest_35 : decode prog_2_method_6_code 35 = .ok (.imul, 1) := by decide +kernel
theorem d_Row_addLowest_36 : decode prog_2_method_6_code 36 = .ok (.lushr, 1) := by decide +kernel
theorem d_Row_addLowest_37 : decode prog_2_method_6_code 37 = .ok (.l2i, 1) := by decide +kernel
theorem d_Row_addLowest_38 : decode prog_2_method_6_code 38 = .ok (.i2b, 1) := by decide +kernel
theorem d_Row_addLowest_39 : decode prog_2_method_6_code 39 = .ok (.bastore, 1) := by decide +kernel
theorem d_Row_addLowest_40 : decode prog_2_method_6_code 40 = .ok (.aload_n 0, 1) := by decide +kernel
theorem d_Row_addLowest_41 : decode prog_2_method_6_code 41 = .ok (.dup, 1) := by decide +kernel
theorem d_Row_addLowest_42 : decode prog_2_method_6_code 42 = .ok (.getfield 21, 3) := by decide +kernel
theorem d_Row_addLowest_45 : decode prog_2_method_6_code 45 = .ok (.iconst 1, 1) := by decide +kernel
theorem d_Row_addLowest_46 : decode prog_2_method_6_code 46 = .ok (.iadd, 1) := by decide +kernel
theorem d_Row_addLowest_47 : decode prog_2_method_6_code 47 = .ok (.putfield 21, 3) := by decide +kernel
theorem d_Row_addLowest_50 : decode prog_2_method_6_code 50 = .ok (.iinc 4 (-1), 3) := by decide +kernel
theorem d_Row_addLowest_53 : decode prog_2_method_6_code 53 = .ok (.goto (-48), 3) := by decide +kernel
theorem d_Row_addLowest_56 : decode prog_2_method_6_code 56 = .ok (.return_, 1) := by decide +kernel
theorem d_Row_keepFirst_0 : decode prog_2_method_7_code 0 = .ok (.aload_n 0, 1) := by decide +kernel
theorem d_Row_keepFirst_1 : decode prog_2_method_7_code 1 = .ok (.iload_n 1, 1) := by decide +kernel
theorem d_Row_keepFirst_2 : decode prog_2_method_7_code 2 = .ok (.aload_n 0, 1) := by decide +kernel
theorem d_Row_keepFirst_3 : decode prog_2_method_7_code 3 = .ok (.getfield 21, 3) := by decide +kernel
theorem d_Row_keepFirst_6 : decode prog_2_method_7_code 6 = .ok (.invokestatic 25, 3) := by decide +kernel
theorem d_Row_keepFirst_9 : decode prog_2_method_7_code 9 = .ok (.iconst 0, 1) := by decide +kernel
theorem d_Row_keepFirst_10 : decode prog_2_method_7_code 10 = .ok (.invokestatic 9, 3) := by decide +kernel
theorem d_Row_keepFirst_13 : decode prog_2_method_7_code 13 = .ok (.putfield 21, 3) := by decide +kernel
theorem d_Row_keepFirst_16 : decode prog_2_method_7_code 16 = .ok (.return_, 1) := by decide +kernel
theorem d_Row_become_0 : decode prog_2_method_8_code 0 = .ok (.aload_n 0, 1) := by decide +kernel
theorem d_Row_become_1 : decode prog_2_method_8_code 1 = .ok (.aload_n 1, 1) := by decide +kernel
theorem d_Row_become_2 : decode prog_2_method_8_code 2 = .ok (.getfield 21, 3) := by decide +kernel
theorem d_Row_become_5 : decode prog_2_method_8_code 5 = .ok (.aload_n 0, 1) := by decide +kernel
theorem d_Row_become_6 : decode prog_2_method_8_code 6 = .ok (.getfield 15, 3) := by decide +kernel
theorem d_Row_become_9 : decode prog_2_method_8_code 9 = .ok (.arraylength, 1) := by decide +kernel
theorem d_Row_become_10 : decode prog_2_method_8_code 10 = .ok (.invokestatic 25, 3) := by decide +kernel
theorem d_Row_become_13 : decode prog_2_method_8_code 13 = .ok (.putfield 21, 3) := by decide +kernel
theorem d_Row_become_16 : decode prog_2_method_8_code 16 = .ok (.aload_n 1, 1) := by decide +kernel
theorem d_Row_become_17 : decode prog_2_method_8_code 17 = .ok (.getfield 15, 3) := by decide +kernel
theorem d_Row_become_20 : decode prog_2_method_8_code 20 = .ok (.iconst 0, 1) := by decide +kernel
theorem d_Row_become_21 : decode prog_2_method_8_code 21 = .ok (.aload_n 0, 1) := by decide +kernel
theorem d_Row_become_22 : decode prog_2_method_8_code 22 = .ok (.getfield 15, 3) := by decide +kernel
theorem d_Row_become_25 : decode prog_2_method_8_code 25 = .ok (.iconst 0, 1) := by decide +kernel
theorem d_Row_become_26 : decode prog_2_method_8_code 26 = .ok (.aload_n 0, 1) := by decide +kernel
theorem d_Row_become_27 : decode prog_2_method_8_code 27 = .ok (.getfield 21, 3) := by decide +kernel
theorem d_Row_become_30 : decode prog_2_method_8_code 30 = .ok (.invokestatic 28, 3) := by decide +kernel
theorem d_Row_become_33 : decode prog_2_method_8_code 33 = .ok (.return_, 1) := by decide +kernel
theorem d_Row_checkOfFirst_0 : decode prog_2_method_9_code 0 = .ok (.iconst 1, 1) := by decide +kernel
theorem d_Row_checkOfFirst_1 : decode prog_2_method_9_code 1 = .ok (.istore_n 2, 1) := by decide +kernel
theorem d_Row_checkOfFirst_2 : decode prog_2_method_9_code 2 = .ok (.iconst 0, 1) := by decide +kernel
theorem d_Row_checkOfFirst_3 : decode prog_2_method_9_code 3 = .ok (.istore_n 3, 1) := by decide +kernel
theorem d_Row_checkOfFirst_4 : decode prog_2_method_9_code 4 = .ok (.iconst 0, 1) := by decide +kernel
theorem d_Row_checkOfFirst_5 : decode prog_2_method_9_code 5 = .ok (.istore 4, 2) := by decide +kernel
theorem d_Row_checkOfFirst_7 : decode prog_2_method_9_code 7 = .ok (.iload 4, 2) := by decide +kernel
theorem d_Row_checkOfFirst_9 : decode prog_2_method_9_code 9 = .ok (.iload_n 1, 1) := by decide +kernel
theorem d_Row_checkOfFirst_10 : decode prog_2_method_9_code 10 = .ok (.if_icmp .ge 37, 3) := by decide +kernel
theorem d_Row_checkOfFirst_13 : decode prog_2_method_9_code 13 = .ok (.iload 4, 2) := by decide +kernel
theorem d_Row_checkOfFirst_15 : decode prog_2_method_9_code 15 = .ok (.aload_n 0, 1) := by decide +kernel
theorem d_Row_checkOfFirst_16 : decode prog_2_method_9_code 16 = .ok (.getfield 21, 3) := by decide +kernel
theorem d_Row_checkOfFirst_19 : decode prog_2_method_9_code 19 = .ok (.if_icmp .ge 28, 3) := by decide +kernel
theorem d_Row_checkOfFirst_22 : decode prog_2_method_9_code 22 = .ok (.iload_n 2, 1) := by decide +kernel
theorem d_Row_checkOfFirst_23 : decode prog_2_method_9_code 23 = .ok (.aload_n 0, 1) := by decide +kernel
theorem d_Row_checkOfFirst_24 : decode prog_2_method_9_code 24 = .ok (.iload 4, 2) := by decide +kernel
theorem d_Row_checkOfFirst_26 : decode prog_2_method_9_code 26 = .ok (.invokevirtual 34, 3) := by decide +kernel
theorem d_Row_checkOfFirst_29 : decode prog_2_method_9_code 29 = .ok (.iadd, 1) := by decide +kernel
theorem d_Row_checkOfFirst_30 : decode prog_2_method_9_code 30 = .ok (.ldc 38, 2) := by decide +kernel
theorem d_Row_checkOfFirst_32 : decode prog_2_method_9_code 32 = .ok (.irem, 1) := by decide +kernel
theorem d_Row_checkOfFirst_33 : decode prog_2_method_9_code 33 = .ok (.istore_n 2, 1) := by decide +kernel
theorem d_Row_checkOfFirst_34 : decode prog_2_method_9_code 34 = .ok (.iload_n 3, 1) := by decide +kernel
theorem d_Row_checkOfFirst_35 : decode prog_2_method_9_code 35 = .ok (.iload_n 2, 1) := by decide +kernel
theorem d_Row_checkOfFirst_36 : decode prog_2_method_9_code 36 = .ok (.iadd, 1) := by decide +kernel
theorem d_Row_checkOfFirst_37 : decode prog_2_method_9_code 37 = .ok (.ldc 38, 2) := by decide +kernel
theorem d_Row_checkOfFirst_39 : decode prog_2_method_9_code 39 = .ok (.irem, 1) := by decide +kernel
theorem d_Row_checkOfFirst_40 : decode prog_2_method_9_code 40 = .ok (.istore_n 3, 1) := by decide +kernel
theorem d_Row_checkOfFirst_41 : decode prog_2_method_9_code 41 = .ok (.iinc 4 1, 3) := by decide +kernel
theorem d_Row_checkOfFirst_44 : decode prog_2_method_9_code 44 = .ok (.goto (-37), 3) := by decide +kernel
theorem d_Row_checkOfFirst_47 : decode prog_2_method_9_code 47 = .ok (.iload_n 3, 1) := by decide +kernel
theorem d_Row_checkOfFirst_48 : decode prog_2_method_9_code 48 = .ok (.bipush 16, 2) := by decide +kernel
theorem d_Row_checkOfFirst_50 : decode prog_2_method_9_code 50 = .ok (.ishl, 1) := by decide +kernel
theorem d_Row_checkOfFirst_51 : decode prog_2_method_9_code 51 = .ok (.iload_n 2, 1) := by decide +kernel
theorem d_Row_checkOfFirst_52 : decode prog_2_method_9_code 52 = .ok (.ior, 1) := by decide +kernel
theorem d_Row_checkOfFirst_53 : decode prog_2_method_9_code 53 = .ok (.ireturn, 1) := by decide +kernel
theorem d_Rd_fault_0 : decode prog_4_method_2_code 0 = .ok (.aload_n 0, 1) := by decide +kernel
theorem d_Rd_fault_1 : decode prog_4_method_2_code 1 = .ok (.getfield 15, 3) := by decide +kernel
theorem d_Rd_fault_4 : decode prog_4_method_2_code 4 = .ok (.ireturn, 1) := by decide +kernel
theorem d_Rd_faultPlace_0 : decode prog_4_method_3_code 0 = .ok (.aload_n 0, 1) := by decide +kernel
theorem d_Rd_faultPlace_1 : decode prog_4_method_3_code 1 = .ok (.getfield 19, 3) := by decide +kernel
theorem d_Rd_faultPlace_4 : decode prog_4_method_3_code 4 = .ok (.ireturn, 1) := by decide +kernel
theorem d_Rd_fail_0 : decode prog_4_method_5_code 0 = .ok (.aload_n 0, 1) := by decide +kernel
theorem d_Rd_fail_1 : decode prog_4_method_5_code 1 = .ok (.getfield 15, 3) := by decide +kernel
theorem d_Rd_fail_4 : decode prog_4_method_5_code 4 = .ok (.ifCond .ne 13, 3) := by decide +kernel
theorem d_Rd_fail_7 : decode prog_4_method_5_code 7 = .ok (.aload_n 0, 1) := by decide +kernel
theorem d_Rd_fail_8 : decode prog_4_method_5_code 8 = .ok (.iload_n 1, 1) := by decide +kernel
theorem d_Rd_fail_9 : decode prog_4_method_5_code 9 = .ok (.putfield 15, 3) := by decide +kernel
theorem d_Rd_fail_12 : decode prog_4_method_5_code 12 = .ok (.aload_n 0, 1) := by decide +kernel
theorem d_Rd_fail_13 : decode prog_4_method_5_code 13 = .ok (.iload_n 2, 1) := by decide +kernel
theorem d_Rd_fail_14 : decode prog_4_method_5_code 14 = .ok (.putfield 19, 3) := by decide +kernel
theorem d_Rd_fail_17 : decode prog_4_method_5_code 17 = .ok (.return_, 1) := by decide +kernel
theorem d_Rd_take_0 : decode prog_4_method_6_code 0 = .ok (.aload_n 0, 1) := by decide +kernel
theorem d_Rd_take_1 : decode prog_4_method_6_code 1 = .ok (.getfield 15, 3) := by decide +kernel
theorem d_Rd_take_4 : decode prog_4_method_6_code 4 = .ok (.ifCond .eq 5, 3) := by decide +kernel
theorem d_Rd_take_7 : decode prog_4_method_6_code 7 = .ok (.iconst (-1), 1) := by decide +kernel
theorem d_Rd_take_8 : decode prog_4_method_6_code 8 = .ok (.ireturn, 1) := by decide +kernel
theorem d_Rd_take_9 : decode prog_4_method_6_code 9 = .ok (.aload_n 0, 1) := by decide +kernel
theorem d_Rd_take_10 : decode prog_4_method_6_code 10 = .ok (.getfield 9, 3) := by decide +kernel
theorem d_Rd_take_13 : decode prog_4_method_6_code 13 = .ok (.aload_n 0, 1) := by decide +kernel
theorem d_Rd_take_14 : decode prog_4_method_6_code 14 = .ok (.getfield 22, 3) := by decide +kernel
theorem d_Rd_take_17 : decode prog_4_method_6_code 17 = .ok (.invokevirtual 56, 3) := by decide +kernel
