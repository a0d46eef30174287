theorem d_Rd_take_20 : decode prog_4_method_6_code 20 = .ok (.istore_n 2, 1) := by decide +kernel
theorem d_Rd_take_21 : decode prog_4_method_6_code 21 = .ok (.iload_n 2, 1) := by decide +kernel
theorem d_Rd_take_22 : decode prog_4_method_6_code 22 = .ok (.iconst (-1), 1) := by decide +kernel
theorem d_Rd_take_23 : decode prog_4_method_6_code 23 = .ok (.if_icmp .ne 14, 3) := by decide +kernel
theorem d_Rd_take_26 : decode prog_4_method_6_code 26 = .ok (.aload_n 0, 1) := by decide +kernel
theorem d_Rd_take_27 : decode prog_4_method_6_code 27 = .ok (.iconst 1, 1) := by decide +kernel
theorem d_Rd_take_28 : decode prog_4_method_6_code 28 = .ok (.aload_n 0, 1) := by decide +kernel
theorem d_Rd_take_29 : decode prog_4_method_6_code 29 = .ok (.getfield 22, 3) := by decide +kernel
theorem d_Rd_take_32 : decode prog_4_method_6_code 32 = .ok (.invokevirtual 52, 3) := by decide +kernel
theorem d_Rd_take_35 : decode prog_4_method_6_code 35 = .ok (.iconst (-1), 1) := by decide +kernel
theorem d_Rd_take_36 : decode prog_4_method_6_code 36 = .ok (.ireturn, 1) := by decide +kernel
theorem d_Rd_take_37 : decode prog_4_method_6_code 37 = .ok (.iload_n 2, 1) := by decide +kernel
theorem d_Rd_take_38 : decode prog_4_method_6_code 38 = .ok (.iload_n 1, 1) := by decide +kernel
theorem d_Rd_take_39 : decode prog_4_method_6_code 39 = .ok (.if_icmp .le 14, 3) := by decide +kernel
theorem d_Rd_take_42 : decode prog_4_method_6_code 42 = .ok (.aload_n 0, 1) := by decide +kernel
theorem d_Rd_take_43 : decode prog_4_method_6_code 43 = .ok (.iconst 3, 1) := by decide +kernel
theorem d_Rd_take_44 : decode prog_4_method_6_code 44 = .ok (.aload_n 0, 1) := by decide +kernel
theorem d_Rd_take_45 : decode prog_4_method_6_code 45 = .ok (.getfield 22, 3) := by decide +kernel
theorem d_Rd_take_48 : decode prog_4_method_6_code 48 = .ok (.invokevirtual 52, 3) := by decide +kernel
theorem d_Rd_take_51 : decode prog_4_method_6_code 51 = .ok (.iconst (-1), 1) := by decide +kernel
theorem d_Rd_take_52 : decode prog_4_method_6_code 52 = .ok (.ireturn, 1) := by decide +kernel
theorem d_Rd_take_53 : decode prog_4_method_6_code 53 = .ok (.aload_n 0, 1) := by decide +kernel
theorem d_Rd_take_54 : decode prog_4_method_6_code 54 = .ok (.dup, 1) := by decide +kernel
theorem d_Rd_take_55 : decode prog_4_method_6_code 55 = .ok (.getfield 22, 3) := by decide +kernel
theorem d_Rd_take_58 : decode prog_4_method_6_code 58 = .ok (.iconst 1, 1) := by decide +kernel
theorem d_Rd_take_59 : decode prog_4_method_6_code 59 = .ok (.iadd, 1) := by decide +kernel
theorem d_Rd_take_60 : decode prog_4_method_6_code 60 = .ok (.putfield 22, 3) := by decide +kernel
theorem d_Rd_take_63 : decode prog_4_method_6_code 63 = .ok (.iload_n 2, 1) := by decide +kernel
theorem d_Rd_take_64 : decode prog_4_method_6_code 64 = .ok (.ireturn, 1) := by decide +kernel
theorem d_Rd_takeOnly_0 : decode prog_4_method_7_code 0 = .ok (.aload_n 0, 1) := by decide +kernel
theorem d_Rd_takeOnly_1 : decode prog_4_method_7_code 1 = .ok (.getfield 22, 3) := by decide +kernel
theorem d_Rd_takeOnly_4 : decode prog_4_method_7_code 4 = .ok (.istore_n 3, 1) := by decide +kernel
theorem d_Rd_takeOnly_5 : decode prog_4_method_7_code 5 = .ok (.aload_n 0, 1) := by decide +kernel
theorem d_Rd_takeOnly_6 : decode prog_4_method_7_code 6 = .ok (.sipush 255, 3) := by decide +kernel
theorem d_Rd_takeOnly_9 : decode prog_4_method_7_code 9 = .ok (.invokevirtual 60, 3) := by decide +kernel
theorem d_Rd_takeOnly_12 : decode prog_4_method_7_code 12 = .ok (.iload_n 1, 1) := by decide +kernel
theorem d_Rd_takeOnly_13 : decode prog_4_method_7_code 13 = .ok (.if_icmp .eq 9, 3) := by decide +kernel
theorem d_Rd_takeOnly_16 : decode prog_4_method_7_code 16 = .ok (.aload_n 0, 1) := by decide +kernel
theorem d_Rd_takeOnly_17 : decode prog_4_method_7_code 17 = .ok (.iload_n 2, 1) := by decide +kernel
theorem d_Rd_takeOnly_18 : decode prog_4_method_7_code 18 = .ok (.iload_n 3, 1) := by decide +kernel
theorem d_Rd_takeOnly_19 : decode prog_4_method_7_code 19 = .ok (.invokevirtual 52, 3) := by decide +kernel
theorem d_Rd_takeOnly_22 : decode prog_4_method_7_code 22 = .ok (.return_, 1) := by decide +kernel
theorem d_Rd_takePlace_0 : decode prog_4_method_10_code 0 = .ok (.aload_n 0, 1) := by decide +kernel
theorem d_Rd_takePlace_1 : decode prog_4_method_10_code 1 = .ok (.sipush 255, 3) := by decide +kernel
theorem d_Rd_takePlace_4 : decode prog_4_method_10_code 4 = .ok (.invokevirtual 60, 3) := by decide +kernel
theorem d_Rd_takePlace_7 : decode prog_4_method_10_code 7 = .ok (.istore_n 1, 1) := by decide +kernel
theorem d_Rd_takePlace_8 : decode prog_4_method_10_code 8 = .ok (.aload_n 0, 1) := by decide +kernel
theorem d_Rd_takePlace_9 : decode prog_4_method_10_code 9 = .ok (.sipush 255, 3) := by decide +kernel
theorem d_Rd_takePlace_12 : decode prog_4_method_10_code 12 = .ok (.invokevirtual 60, 3) := by decide +kernel
theorem d_Rd_takePlace_15 : decode prog_4_method_10_code 15 = .ok (.istore_n 2, 1) := by decide +kernel
theorem d_Rd_takePlace_16 : decode prog_4_method_10_code 16 = .ok (.iload_n 1, 1) := by decide +kernel
theorem d_Rd_takePlace_17 : decode prog_4_method_10_code 17 = .ok (.sipush 256, 3) := by decide +kernel
theorem d_Rd_takePlace_20 : decode prog_4_method_10_code 20 = .ok (.imul, 1) := by decide +kernel
theorem d_Rd_takePlace_21 : decode prog_4_method_10_code 21 = .ok (.iload_n 2, 1) := by decide +kernel
theorem d_Rd_takePlace_22 : decode prog_4_method_10_code 22 = .ok (.iadd, 1) := by decide +kernel
theorem d_Rd_takePlace_23 : decode prog_4_method_10_code 23 = .ok (.istore_n 3, 1) := by decide +kernel
theorem d_Rd_takePlace_24 : decode prog_4_method_10_code 24 = .ok (.iload_n 3, 1) := by decide +kernel
theorem d_Rd_takePlace_25 : decode prog_4_method_10_code 25 = .ok (.sipush 32767, 3) := by decide +kernel
theorem d_Rd_takePlace_28 : decode prog_4_method_10_code 28 = .ok (.if_icmp .le 10, 3) := by decide +kernel
theorem d_Rd_takePlace_31 : decode prog_4_method_10_code 31 = .ok (.iload_n 3, 1) := by decide +kernel
theorem d_Rd_takePlace_32 : decode prog_4_method_10_code 32 = .ok (.ldc 77, 2) := by decide +kernel
theorem d_Rd_takePlace_34 : decode prog_4_method_10_code 34 = .ok (.isub, 1) := by decide +kernel
theorem d_Rd_takePlace_35 : decode prog_4_method_10_code 35 = .ok (.goto 4, 3) := by decide +kernel
theorem d_Rd_takePlace_38 : decode prog_4_method_10_code 38 = .ok (.iload_n 3, 1) := by decide +kernel
theorem d_Rd_takePlace_39 : decode prog_4_method_10_code 39 = .ok (.ireturn, 1) := by decide +kernel
theorem d_Rd_takeStart_0 : decode prog_4_method_9_code 0 = .ok (.aload_n 0, 1) := by decide +kernel
theorem d_Rd_takeStart_1 : decode prog_4_method_9_code 1 = .ok (.invokevirtual 70, 3) := by decide +kernel
theorem d_Rd_takeStart_4 : decode prog_4_method_9_code 4 = .ok (.istore_n 2, 1) := by decide +kernel
theorem d_Rd_takeStart_5 : decode prog_4_method_9_code 5 = .ok (.aload_n 0, 1) := by decide +kernel
theorem d_Rd_takeStart_6 : decode prog_4_method_9_code 6 = .ok (.invokevirtual 70, 3) := by decide +kernel
theorem d_Rd_takeStart_9 : decode prog_4_method_9_code 9 = .ok (.istore_n 3, 1) := by decide +kernel
theorem d_Rd_takeStart_10 : decode prog_4_method_9_code 10 = .ok (.aload_n 0, 1) := by decide +kernel
theorem d_Rd_takeStart_11 : decode prog_4_method_9_code 11 = .ok (.bipush 63, 2) := by decide +kernel
theorem d_Rd_takeStart_13 : decode prog_4_method_9_code 13 = .ok (.invokevirtual 60, 3) := by decide +kernel
theorem d_Rd_takeStart_16 : decode prog_4_method_9_code 16 = .ok (.istore 4, 2) := by decide +kernel
theorem d_Rd_takeStart_18 : decode prog_4_method_9_code 18 = .ok (.aload_n 0, 1) := by decide +kernel
theorem d_Rd_takeStart_19 : decode prog_4_method_9_code 19 = .ok (.sipush 255, 3) := by decide +kernel
theorem d_Rd_takeStart_22 : decode prog_4_method_9_code 22 = .ok (.invokevirtual 60, 3) := by decide +kernel
theorem d_Rd_takeStart_25 : decode prog_4_method_9_code 25 = .ok (.istore 5, 2) := by decide +kernel
theorem d_Rd_takeStart_27 : decode prog_4_method_9_code 27 = .ok (.aload_n 1, 1) := by decide +kernel
theorem d_Rd_takeStart_28 : decode prog_4_method_9_code 28 = .ok (.iload_n 2, 1) := by decide +kernel
theorem d_Rd_takeStart_29 : decode prog_4_method_9_code 29 = .ok (.iload_n 3, 1) := by decide +kernel
theorem d_Rd_takeStart_30 : decode prog_4_method_9_code 30 = .ok (.iload 4, 2) := by decide +kernel
theorem d_Rd_takeStart_32 : decode prog_4_method_9_code 32 = .ok (.iload 5, 2) := by decide +kernel
theorem d_Rd_takeStart_34 : decode prog_4_method_9_code 34 = .ok (.invokevirtual 73, 3) := by decide +kernel
theorem d_Rd_takeStart_37 : decode prog_4_method_9_code 37 = .ok (.return_, 1) := by decide +kernel
theorem d_Rd_takeCode_0 : decode prog_4_method_13_code 0 = .ok (.iload_n 1, 1) := by decide +kernel
theorem d_Rd_takeCode_1 : decode prog_4_method_13_code 1 = .ok (.bipush 64, 2) := by decide +kernel
theorem d_Rd_takeCode_3 : decode prog_4_method_13_code 3 = .ok (.iand, 1) := by decide +kernel
theorem d_Rd_takeCode_4 : decode prog_4_method_13_code 4 = .ok (.ifCond .eq 7, 3) := by decide +kernel
theorem d_Rd_takeCode_7 : decode prog_4_method_13_code 7 = .ok (.iconst 1, 1) := by decide +kernel
theorem d_Rd_takeCode_8 : decode prog_4_method_13_code 8 = .ok (.goto 4, 3) := by decide +kernel
theorem d_Rd_takeCode_11 : decode prog_4_method_13_code 11 = .ok (.iconst 0, 1) := by decide +kernel
theorem d_Rd_takeCode_12 : decode prog_4_method_13_code 12 = .ok (.istore_n 2, 1) := by decide +kernel
theorem d_Rd_takeCode_13 : decode prog_4_method_13_code 13 = .ok (.aload_n 0, 1) := by decide +kernel
theorem d_Rd_takeCode_14 : decode prog_4_method_13_code 14 = .ok (.sipush 128, 3) := by decide +kernel
theorem d_Rd_takeCode_17 : decode prog_4_method_13_code 17 = .ok (.invokevirtual 60, 3) := by decide +kernel
theorem d_Rd_takeCode_20 : decode prog_4_method_13_code 20 = .ok (.istore_n 3, 1) := by decide +kernel
theorem d_Rd_takeCode_21 : decode prog_4_method_13_code 21 = .ok (.iload_n 1, 1) := by decide +kernel
theorem d_Rd_takeCode_22 : decode prog_4_method_13_code 22 = .ok (.sipush 128, 3) := by decide +kernel
theorem d_Rd_takeCode_25 : decode prog_4_method_13_code 25 = .ok (.iand, 1) := by decide +kernel
theorem d_Rd_takeCode_26 : decode prog_4_method_13_code 26 = .ok (.ifCond .ne 13, 3) := by decide +kernel
theorem d_Rd_takeCode_29 : decode prog_4_method_13_code 29 = .ok (.iload_n 2, 1) := by decide +kernel
theorem d_Rd_takeCode_30 : decode prog_4_method_13_code 30 = .ok (.iload_n 3, 1) := by decide +kernel
theorem d_Rd_takeCode_31 : decode prog_4_method_13_code 31 = .ok (.bipush 64, 2) := by decide +kernel
theorem d_Rd_takeCode_33 : decode prog_4_method_13_code 33 = .ok (.bipush 16, 2) := by decide +kernel
theorem d_Rd_takeCode_35 : decode prog_4_method_13_code 35 = .ok (.invokestatic 97, 3) := by decide +kernel
theorem d_Rd_takeCode_38 : decode prog_4_method_13_code 38 = .ok (.ireturn, 1) := by decide +kernel
theorem d_Rd_takeCode_39 : decode prog_4_method_13_code 39 = .ok (.aload_n 0, 1) := by decide +kernel
theorem d_Rd_takeCode_40 : decode prog_4_method_13_code 40 = .ok (.sipush 128, 3) := by decide +kernel
theorem d_Rd_takeCode_43 : decode prog_4_method_13_code 43 = .ok (.invokevirtual 60, 3) := by decide +kernel
theorem d_Rd_takeCode_46 : decode prog_4_method_13_code 46 = .ok (.istore 4, 2) := by decide +kernel
theorem d_Rd_takeCode_48 : decode prog_4_method_13_code 48 = .ok (.aload_n 0, 1) := by decide +kernel
theorem d_Rd_takeCode_49 : decode prog_4_method_13_code 49 = .ok (.getfield 22, 3) := by decide +kernel
theorem d_Rd_takeCode_52 : decode prog_4_method_13_code 52 = .ok (.istore 5, 2) := by decide +kernel
theorem d_Rd_takeCode_54 : decode prog_4_method_13_code 54 = .ok (.aload_n 0, 1) := by decide +kernel
theorem d_Rd_takeCode_55 : decode prog_4_method_13_code 55 = .ok (.bipush 32, 2) := by decide +kernel
theorem d_Rd_takeCode_57 : decode prog_4_method_13_code 57 = .ok (.invokevirtual 60, 3) := by decide +kernel
theorem d_Rd_takeCode_60 : decode prog_4_method_13_code 60 = .ok (.istore 6, 2) := by decide +kernel
theorem d_Rd_takeCode_62 : decode prog_4_method_13_code 62 = .ok (.iload 4, 2) := by decide +kernel
theorem d_Rd_takeCode_64 : decode prog_4_method_13_code 64 = .ok (.bipush 64, 2) := by decide +kernel
theorem d_Rd_takeCode_66 : decode prog_4_method_13_code 66 = .ok (.if_icmp .ne 17, 3) := by decide +kernel
theorem d_Rd_takeCode_69 : decode prog_4_method_13_code 69 = .ok (.iload 6, 2) := by decide +kernel
theorem d_Rd_takeCode_71 : decode prog_4_method_13_code 71 = .ok (.bipush 16, 2) := by decide +kernel
theorem d_Rd_takeCode_73 : decode prog_4_method_13_code 73 = .ok (.if_icmp .ne 10, 3) := by decide +kernel
theorem d_Rd_takeCode_76 : decode prog_4_method_13_code 76 = .ok (.aload_n 0, 1) := by decide +kernel
theorem d_Rd_takeCode_77 : decode prog_4_method_13_code 77 = .ok (.iconst 3, 1) := by decide +kernel
theorem d_Rd_takeCode_78 : decode prog_4_method_13_code 78 = .ok (.iload 5, 2) := by decide +kernel
theorem d_Rd_takeCode_80 : decode prog_4_method_13_code 80 = .ok (.invokevirtual 52, 3) := by decide +kernel
theorem d_Rd_takeCode_83 : decode prog_4_method_13_code 83 = .ok (.iload_n 2, 1) := by decide +kernel
theorem d_Rd_takeCode_84 : decode prog_4_method_13_code 84 = .ok (.iload_n 3, 1) := by decide +kernel
theorem d_Rd_takeCode_85 : decode prog_4_method_13_code 85 = .ok (.iload 4, 2) := by decide +kernel
theorem d_Rd_takeCode_87 : decode prog_4_method_13_code 87 = .ok (.iload 6, 2) := by decide +kernel
theorem d_Rd_takeCode_89 : decode prog_4_method_13_code 89 = .ok (.invokestatic 97, 3) := by decide +kernel
theorem d_Rd_takeCode_92 : decode prog_4_method_13_code 92 = .ok (.ireturn, 1) := by decide +kernel
theorem d_Rd_takeMark_0 : decode prog_4_method_8_code 0 = .ok (.iconst 0, 1) := by decide +kernel
theorem d_Rd_takeMark_1 : decode prog_4_method_8_code 1 = .ok (.istore_n 1, 1) := by decide +kernel
theorem d_Rd_takeMark_2 : decode prog_4_method_8_code 2 = .ok (.iload_n 1, 1) := by decide +kernel
theorem d_Rd_takeMark_3 : decode prog_4_method_8_code 3 = .ok (.getstatic 63, 3) := by decide +kernel
theorem d_Rd_takeMark_6 : decode prog_4_method_8_code 6 = .ok (.arraylength, 1) := by decide +kernel
theorem d_Rd_takeMark_7 : decode prog_4_method_8_code 7 = .ok (.if_icmp .ge 19, 3) := by decide +kernel
theorem d_Rd_takeMark_10 : decode prog_4_method_8_code 10 = .ok (.aload_n 0, 1) := by decide +kernel
theorem d_Rd_takeMark_11 : decode prog_4_method_8_code 11 = .ok (.getstatic 63, 3) := by decide +kernel
theorem d_Rd_takeMark_14 : decode prog_4_method_8_code 14 = .ok (.iload_n 1, 1) := by decide +kernel
theorem d_Rd_takeMark_15 : decode prog_4_method_8_code 15 = .ok (.iaload, 1) := by decide +kernel
theorem d_Rd_takeMark_16 : decode prog_4_method_8_code 16 = .ok (.iconst 2, 1) := by decide +kernel
theorem d_Rd_takeMark_17 : decode prog_4_method_8_code 17 = .ok (.invokevirtual 67, 3) := by decide +kernel
theorem d_Rd_takeMark_20 : decode prog_4_method_8_code 20 = .ok (.iinc 1 1, 3) := by decide +kernel
theorem d_Rd_takeMark_23 : decode prog_4_method_8_code 23 = .ok (.goto (-21), 3) := by decide +kernel
theorem d_Rd_takeMark_26 : decode prog_4_method_8_code 26 = .ok (.return_, 1) := by decide +kernel
theorem d_Rd_takeCheck_0 : decode prog_4_method_14_code 0 = .ok (.aload_n 0, 1) := by decide +kernel
theorem d_Rd_takeCheck_1 : decode prog_4_method_14_code 1 = .ok (.getfield 9, 3) := by decide +kernel
theorem d_Rd_takeCheck_4 : decode prog_4_method_14_code 4 = .ok (.aload_n 0, 1) := by decide +kernel
theorem d_Rd_takeCheck_5 : decode prog_4_method_14_code 5 = .ok (.getfield 22, 3) := by decide +kernel
theorem d_Rd_takeCheck_8 : decode prog_4_method_14_code 8 = .ok (.invokevirtual 103, 3) := by decide +kernel
theorem d_Rd_takeCheck_11 : decode prog_4_method_14_code 11 = .ok (.istore_n 1, 1) := by decide +kernel
theorem d_Rd_takeCheck_12 : decode prog_4_method_14_code 12 = .ok (.iconst 3, 1) := by decide +kernel
theorem d_Rd_takeCheck_13 : decode prog_4_method_14_code 13 = .ok (.istore_n 2, 1) := by decide +kernel
theorem d_Rd_takeCheck_14 : decode prog_4_method_14_code 14 = .ok (.iload_n 2, 1) := by decide +kernel
theorem d_Rd_takeCheck_15 : decode prog_4_method_14_code 15 = .ok (.ifCond .lt 25, 3) := by decide +kernel
theorem d_Rd_takeCheck_18 : decode prog_4_method_14_code 18 = .ok (.aload_n 0, 1) := by decide +kernel
theorem d_Rd_takeCheck_19 : decode prog_4_method_14_code 19 = .ok (.iload_n 1, 1) := by decide +kernel
theorem d_Rd_takeCheck_20 : decode prog_4_method_14_code 20 = .ok (.bipush 8, 2) := by decide +kernel
theorem d_Rd_takeCheck_22 : decode prog_4_method_14_code 22 = .ok (.iload_n 2, 1) := by decide +kernel
theorem d_Rd_takeCheck_23 : decode prog_4_method_14_code 23 = .ok (.imul, 1) := by decide +kernel
theorem d_Rd_takeCheck_24 : decode prog_4_method_14_code 24 = .ok (.iushr, 1) := by decide +kernel
theorem d_Rd_takeCheck_25 : decode prog_4_method_14_code 25 = .ok (.sipush 255, 3) := by decide +kernel
theorem d_Rd_takeCheck_28 : decode prog_4_method_14_code 28 = .ok (.iand, 1) := by decide +kernel
theorem d_Rd_takeCheck_29 : decode prog_4_method_14_code 29 = .ok (.bipush 6, 2) := by decide +kernel
theorem d_Rd_takeCheck_31 : decode prog_4_method_14_code 31 = .ok (.invokevirtual 67, 3) := by decide +kernel
theorem d_Rd_takeCheck_34 : decode prog_4_method_14_code 34 = .ok (.iinc 2 (-1), 3) := by decide +kernel
theorem d_Rd_takeCheck_37 : decode prog_4_method_14_code 37 = .ok (.goto (-23), 3) := by decide +kernel
theorem d_Rd_takeCheck_40 : decode prog_4_method_14_code 40 = .ok (.return_, 1) := by decide +kernel
theorem d_Rd_takeGroup_0 : decode prog_4_method_12_code 0 = .ok (.aload_n 0, 1) := by decide +kernel
theorem d_Rd_takeGroup_1 : decode prog_4_method_12_code 1 = .ok (.getfield 22, 3) := by decide +kernel
theorem d_Rd_takeGroup_4 : decode prog_4_method_12_code 4 = .ok (.istore_n 2, 1) := by decide +kernel
theorem d_Rd_takeGroup_5 : decode prog_4_method_12_code 5 = .ok (.aload_n 0, 1) := by decide +kernel
theorem d_Rd_takeGroup_6 : decode prog_4_method_12_code 6 = .ok (.sipush 255, 3) := by decide +kernel
theorem d_Rd_takeGroup_9 : decode prog_4_method_12_code 9 = .ok (.invokevirtual 60, 3) := by decide +kernel
theorem d_Rd_takeGroup_12 : decode prog_4_method_12_code 12 = .ok (.istore_n 3, 1) := by decide +kernel
theorem d_Rd_takeGroup_13 : decode prog_4_method_12_code 13 = .ok (.iload_n 3, 1) := by decide +kernel
theorem d_Rd_takeGroup_14 : decode prog_4_method_12_code 14 = .ok (.iconst (-1), 1) := by decide +kernel
theorem d_Rd_takeGroup_15 : decode prog_4_method_12_code 15 = .ok (.if_icmp .eq 7, 3) := by decide +kernel
theorem d_Rd_takeGroup_18 : decode prog_4_method_12_code 18 = .ok (.iload_n 3, 1) := by decide +kernel
theorem d_Rd_takeGroup_19 : decode prog_4_method_12_code 19 = .ok (.ifCond .ne 5, 3) := by decide +kernel
theorem d_Rd_takeGroup_22 : decode prog_4_method_12_code 22 = .ok (.iconst 0, 1) := by decide +kernel
theorem d_Rd_takeGroup_23 : decode prog_4_method_12_code 23 = .ok (.ireturn, 1) := by decide +kernel
theorem d_Rd_takeGroup_24 : decode prog_4_method_12_code 24 = .ok (.iload_n 3, 1) := by decide +kernel
theorem d_Rd_takeGroup_25 : decode prog_4_method_12_code 25 = .ok (.bipush 63, 2) := by decide +kernel
theorem d_Rd_takeGroup_27 : decode prog_4_method_12_code 27 = .ok (.iand, 1) := by decide +kernel
theorem d_Rd_takeGroup_28 : decode prog_4_method_12_code 28 = .ok (.istore 4, 2) := by decide +kernel
theorem d_Rd_takeGroup_30 : decode prog_4_method_12_code 30 = .ok (.iload 4, 2) := by decide +kernel
theorem d_Rd_takeGroup_32 : decode prog_4_method_12_code 32 = .ok (.ifCond .ne 9, 3) := by decide +kernel
theorem d_Rd_takeGroup_35 : decode prog_4_method_12_code 35 = .ok (.aload_n 0, 1) := by decide +kernel
theorem d_Rd_takeGroup_36 : decode prog_4_method_12_code 36 = .ok (.iconst 3, 1) := by decide +kernel
theorem d_Rd_takeGroup_37 : decode prog_4_method_12_code 37 = .ok (.iload_n 2, 1) := by decide +kernel
theorem d_Rd_takeGroup_38 : decode prog_4_method_12_code 38 = .ok (.invokevirtual 52, 3) := by decide +kernel
theorem d_Rd_takeGroup_41 : decode prog_4_method_12_code 41 = .ok (.iload 4, 2) := by decide +kernel
theorem d_Rd_takeGroup_43 : decode prog_4_method_12_code 43 = .ok (.aload_n 1, 1) := by decide +kernel
theorem d_Rd_takeGroup_44 : decode prog_4_method_12_code 44 = .ok (.invokevirtual 82, 3) := by decide +kernel
theorem d_Rd_takeGroup_47 : decode prog_4_method_12_code 47 = .ok (.if_icmp .le 9, 3) := by decide +kernel
theorem d_Rd_takeGroup_50 : decode prog_4_method_12_code 50 = .ok (.aload_n 0, 1) := by decide +kernel
theorem d_Rd_takeGroup_51 : decode prog_4_method_12_code 51 = .ok (.iconst 5, 1) := by decide +kernel
theorem d_Rd_takeGroup_52 : decode prog_4_method_12_code 52 = .ok (.iload_n 2, 1) := by decide +kernel
theorem d_Rd_takeGroup_53 : decode prog_4_method_12_code 53 = .ok (.invokevirtual 52, 3) := by decide +kernel
theorem d_Rd_takeGroup_56 : decode prog_4_method_12_code 56 = .ok (.aload_n 0, 1) := by decide +kernel
theorem d_Rd_takeGroup_57 : decode prog_4_method_12_code 57 = .ok (.iload_n 3, 1) := by decide +kernel
theorem d_Rd_takeGroup_58 : decode prog_4_method_12_code 58 = .ok (.invokevirtual 85, 3) := by decide +kernel
theorem d_Rd_takeGroup_61 : decode prog_4_method_12_code 61 = .ok (.istore 5, 2) := by decide +kernel
theorem d_Rd_takeGroup_63 : decode prog_4_method_12_code 63 = .ok (.aload_n 0, 1) := by decide +kernel
theorem d_Rd_takeGroup_64 : decode prog_4_method_12_code 64 = .ok (.getfield 25, 3) := by decide +kernel
theorem d_Rd_takeGroup_67 : decode prog_4_method_12_code 67 = .ok (.bipush 63, 2) := by decide +kernel
theorem d_Rd_takeGroup_69 : decode prog_4_method_12_code 69 = .ok (.if_icmp .ge 24, 3) := by decide +kernel
theorem d_Rd_takeGroup_72 : decode prog_4_method_12_code 72 = .ok (.aload_n 1, 1) := by decide +kernel
theorem d_Rd_takeGroup_73 : decode prog_4_method_12_code 73 = .ok (.aload_n 1, 1) := by decide +kernel
theorem d_Rd_takeGroup_74 : decode prog_4_method_12_code 74 = .ok (.invokevirtual 88, 3) := by decide +kernel
theorem d_Rd_takeGroup_77 : decode prog_4_method_12_code 77 = .ok (.iconst 1, 1) := by decide +kernel
theorem d_Rd_takeGroup_78 : decode prog_4_method_12_code 78 = .ok (.isub, 1) := by decide +kernel
theorem d_Rd_takeGroup_79 : decode prog_4_method_12_code 79 = .ok (.invokevirtual 91, 3) := by decide +kernel
theorem d_Rd_takeGroup_82 : decode prog_4_method_12_code 82 = .ok (.iload 5, 2) := by decide +kernel
theorem d_Rd_takeGroup_84 : decode prog_4_method_12_code 84 = .ok (.if_icmp .ne 9, 3) := by decide +kernel
theorem d_Rd_takeGroup_87 : decode prog_4_method_12_code 87 = .ok (.aload_n 0, 1) := by decide +kernel
theorem d_Rd_takeGroup_88 : decode prog_4_method_12_code 88 = .ok (.iconst 4, 1) := by decide +kernel
theorem d_Rd_takeGroup_89 : decode prog_4_method_12_code 89 = .ok (.iload_n 2, 1) := by decide +kernel
theorem d_Rd_takeGroup_90 : decode prog_4_method_12_code 90 = .ok (.invokevirtual 52, 3) := by decide +kernel
theorem d_Rd_takeGroup_93 : decode prog_4_method_12_code 93 = .ok (.aload_n 0, 1) := by decide +kernel
theorem d_Rd_takeGroup_94 : decode prog_4_method_12_code 94 = .ok (.getfield 15, 3) := by decide +kernel
theorem d_Rd_takeGroup_97 : decode prog_4_method_12_code 97 = .ok (.ifCond .eq 5, 3) := by decide +kernel
theorem d_Rd_takeGroup_100 : decode prog_4_method_12_code 100 = .ok (.iconst 0, 1) := by decide +kernel
theorem d_Rd_takeGroup_101 : decode prog_4_method_12_code 101 = .ok (.ireturn, 1) := by decide +kernel
theorem d_Rd_takeGroup_102 : decode prog_4_method_12_code 102 = .ok (.aload_n 1, 1) := by decide +kernel
theorem d_Rd_takeGroup_103 : decode prog_4_method_12_code 103 = .ok (.iload 5, 2) := by decide +kernel
theorem d_Rd_takeGroup_105 : decode prog_4_method_12_code 105 = .ok (.iload 4, 2) := by decide +kernel
theorem d_Rd_takeGroup_107 : decode prog_4_method_12_code 107 = .ok (.invokevirtual 94, 3) := by decide +kernel
theorem d_Rd_takeGroup_110 : decode prog_4_method_12_code 110 = .ok (.aload_n 0, 1) := by decide +kernel
theorem d_Rd_takeGroup_111 : decode prog_4_method_12_code 111 = .ok (.iload 4, 2) := by decide +kernel
theorem d_Rd_takeGroup_113 : decode prog_4_method_12_code 113 = .ok (.putfield 25, 3) := by decide +kernel
theorem d_Rd_takeGroup_116 : decode prog_4_method_12_code 116 = .ok (.iconst 1, 1) := by decide +kernel
theorem d_Rd_takeGroup_117 : decode prog_4_method_12_code 117 = .ok (.ireturn, 1) := by decide +kernel
theorem d_Rd_takeGroups_0 : decode prog_4_method_11_code 0 = .ok (.iconst 1, 1) := by decide +kernel
theorem d_Rd_takeGroups_1 : decode prog_4_method_11_code 1 = .ok (.istore_n 2, 1) := by decide +kernel
theorem d_Rd_takeGroups_2 : decode prog_4_method_11_code 2 = .ok (.iconst 0, 1) := by decide +kernel
theorem d_Rd_takeGroups_3 : decode prog_4_method_11_code 3 = .ok (.istore_n 3, 1) := by decide +kernel
theorem d_Rd_takeGroups_4 : decode prog_4_method_11_code 4 = .ok (.iload_n 2, 1) := by decide +kernel
theorem d_Rd_takeGroups_5 : decode prog_4_method_11_code 5 = .ok (.ifCond .eq 22, 3) := by decide +kernel
theorem d_Rd_takeGroups_8 : decode prog_4_method_11_code 8 = .ok (.iload_n 3, 1) := by decide +kernel
theorem d_Rd_takeGroups_9 : decode prog_4_method_11_code 9 = .ok (.sipush 1024, 3) := by decide +kernel
theorem d_Rd_takeGroups_12 : decode prog_4_method_11_code 12 = .ok (.if_icmp .gt 15, 3) := by decide +kernel
theorem d_Rd_takeGroups_15 : decode prog_4_method_11_code 15 = .ok (.aload_n 0, 1) := by decide +kernel
theorem d_Rd_takeGroups_16 : decode prog_4_method_11_code 16 = .ok (.aload_n 1, 1) := by decide +kernel
theorem d_Rd_takeGroups_17 : decode prog_4_method_11_code 17 = .ok (.invokevirtual 78, 3) := by decide +kernel
theorem d_Rd_takeGroups_20 : decode prog_4_method_11_code 20 = .ok (.istore_n 2, 1) := by decide +kernel
theorem d_Rd_takeGroups_21 : decode prog_4_method_11_code 21 = .ok (.iinc 3 1, 3) := by decide +kernel
theorem d_Rd_takeGroups_24 : decode prog_4_method_11_code 24 = .ok (.goto (-20), 3) := by decide +kernel
theorem d_Rd_takeGroups_27 : decode prog_4_method_11_code 27 = .ok (.return_, 1) := by decide +kernel
theorem d_Rd_readInto_0 : decode prog_4_method_4_code 0 = .ok (.aload_n 0, 1) := by decide +kernel
theorem d_Rd_readInto_1 : decode prog_4_method_4_code 1 = .ok (.iconst 0, 1) := by decide +kernel
theorem d_Rd_readInto_2 : decode prog_4_method_4_code 2 = .ok (.putfield 22, 3) := by decide +kernel
theorem d_Rd_readInto_5 : decode prog_4_method_4_code 5 = .ok (.aload_n 0, 1) := by decide +kernel
theorem d_Rd_readInto_6 : decode prog_4_method_4_code 6 = .ok (.iconst 0, 1) := by decide +kernel
theorem d_Rd_readInto_7 : decode prog_4_method_4_code 7 = .ok (.putfield 25, 3) := by decide +kernel
theorem d_Rd_readInto_10 : decode prog_4_method_4_code 10 = .ok (.aload_n 0, 1) := by decide +kernel
theorem d_Rd_readInto_11 : decode prog_4_method_4_code 11 = .ok (.iconst 0, 1) := by decide +kernel
theorem d_Rd_readInto_12 : decode prog_4_method_4_code 12 = .ok (.putfield 15, 3) := by decide +kernel
theorem d_Rd_readInto_15 : decode prog_4_method_4_code 15 = .ok (.aload_n 0, 1) := by decide +kernel
theorem d_Rd_readInto_16 : decode prog_4_method_4_code 16 = .ok (.iconst (-1), 1) := by decide +kernel
theorem d_Rd_readInto_17 : decode prog_4_method_4_code 17 = .ok (.putfield 19, 3) := by decide +kernel
theorem d_Rd_readInto_20 : decode prog_4_method_4_code 20 = .ok (.aload_n 1, 1) := by decide +kernel
theorem d_Rd_readInto_21 : decode prog_4_method_4_code 21 = .ok (.invokevirtual 28, 3) := by decide +kernel
theorem d_Rd_readInto_24 : decode prog_4_method_4_code 24 = .ok (.aload_n 0, 1) := by decide +kernel
theorem d_Rd_readInto_25 : decode prog_4_method_4_code 25 = .ok (.invokevirtual 33, 3) := by decide +kernel
theorem d_Rd_readInto_28 : decode prog_4_method_4_code 28 = .ok (.aload_n 0, 1) := by decide +kernel
theorem d_Rd_readInto_29 : decode prog_4_method_4_code 29 = .ok (.aload_n 1, 1) := by decide +kernel
theorem d_Rd_readInto_30 : decode prog_4_method_4_code 30 = .ok (.invokevirtual 36, 3) := by decide +kernel
theorem d_Rd_readInto_33 : decode prog_4_method_4_code 33 = .ok (.aload_n 0, 1) := by decide +kernel
theorem d_Rd_readInto_34 : decode prog_4_method_4_code 34 = .ok (.aload_n 1, 1) := by decide +kernel
theorem d_Rd_readInto_35 : decode prog_4_method_4_code 35 = .ok (.invokevirtual 40, 3) := by decide +kernel
theorem d_Rd_readInto_38 : decode prog_4_method_4_code 38 = .ok (.aload_n 0, 1) := by decide +kernel
theorem d_Rd_readInto_39 : decode prog_4_method_4_code 39 = .ok (.invokevirtual 43, 3) := by decide +kernel
theorem d_Rd_readInto_42 : decode prog_4_method_4_code 42 = .ok (.aload_n 0, 1) := by decide +kernel
theorem d_Rd_readInto_43 : decode prog_4_method_4_code 43 = .ok (.getfield 22, 3) := by decide +kernel
theorem d_Rd_readInto_46 : decode prog_4_method_4_code 46 = .ok (.aload_n 0, 1) := by decide +kernel
theorem d_Rd_readInto_47 : decode prog_4_method_4_code 47 = .ok (.getfield 9, 3) := by decide +kernel
theorem d_Rd_readInto_50 : decode prog_4_method_4_code 50 = .ok (.invokevirtual 46, 3) := by decide +kernel
theorem d_Rd_readInto_53 : decode prog_4_method_4_code 53 = .ok (.if_icmp .ge 13, 3) := by decide +kernel
theorem d_Rd_readInto_56 : decode prog_4_method_4_code 56 = .ok (.aload_n 0, 1) := by decide +kernel
theorem d_Rd_readInto_57 : decode prog_4_method_4_code 57 = .ok (.bipush 7, 2) := by decide +kernel
theorem d_Rd_readInto_59 : decode prog_4_method_4_code 59 = .ok (.aload_n 0, 1) := by decide +kernel
theorem d_Rd_readInto_60 : decode prog_4_method_4_code 60 = .ok (.getfield 22, 3) := by decide +kernel
theorem d_Rd_readInto_63 : decode prog_4_method_4_code 63 = .ok (.invokevirtual 52, 3) := by decide +kernel
theorem d_Rd_readInto_66 : decode prog_4_method_4_code 66 = .ok (.return_, 1) := by decide +kernel
theorem d_Walk_putGroup_0 : decode prog_5_method_16_code 0 = .ok (.iload_n 1, 1) := by decide +kernel
theorem d_Walk_putGroup_1 : decode prog_5_method_16_code 1 = .ok (.invokestatic 83, 3) := by decide +kernel
theorem d_Walk_putGroup_4 : decode prog_5_method_16_code 4 = .ok (.istore_n 3, 1) := by decide +kernel
theorem d_Walk_putGroup_5 : decode prog_5_method_16_code 5 = .ok (.aload_n 0, 1) := by decide +kernel
theorem d_Walk_putGroup_6 : decode prog_5_method_16_code 6 = .ok (.iload_n 2, 1) := by decide +kernel
theorem d_Walk_putGroup_7 : decode prog_5_method_16_code 7 = .ok (.iload_n 1, 1) := by decide +kernel
theorem d_Walk_putGroup_8 : decode prog_5_method_16_code 8 = .ok (.invokestatic 49, 3) := by decide +kernel
theorem d_Walk_putGroup_11 : decode prog_5_method_16_code 11 = .ok (.ifCond .eq 8, 3) := by decide +kernel
theorem d_Walk_putGroup_14 : decode prog_5_method_16_code 14 = .ok (.bipush 64, 2) := by decide +kernel
theorem d_Walk_putGroup_16 : decode prog_5_method_16_code 16 = .ok (.goto 4, 3) := by decide +kernel
theorem d_Walk_putGroup_19 : decode prog_5_method_16_code 19 = .ok (.iconst 0, 1) := by decide +kernel
theorem d_Walk_putGroup_20 : decode prog_5_method_16_code 20 = .ok (.iadd, 1) := by decide +kernel
theorem d_Walk_putGroup_21 : decode prog_5_method_16_code 21 = .ok (.iload_n 3, 1) := by decide +kernel
theorem d_Walk_putGroup_22 : decode prog_5_method_16_code 22 = .ok (.ifCond .eq 9, 3) := by decide +kernel
theorem d_Walk_putGroup_25 : decode prog_5_method_16_code 25 = .ok (.sipush 128, 3) := by decide +kernel
theorem d_Walk_putGroup_28 : decode prog_5_method_16_code 28 = .ok (.goto 4, 3) := by decide +kernel
theorem d_Walk_putGroup_31 : decode prog_5_method_16_code 31 = .ok (.iconst 0, 1) := by decide +kernel
theorem d_Walk_putGroup_32 : decode prog_5_method_16_code 32 = .ok (.iadd, 1) := by decide +kernel
theorem d_Walk_putGroup_33 : decode prog_5_method_16_code 33 = .ok (.i2l, 1) := by decide +kernel
theorem d_Walk_putGroup_34 : decode prog_5_method_16_code 34 = .ok (.iconst 1, 1) := by decide +kernel
theorem d_Walk_putGroup_35 : decode prog_5_method_16_code 35 = .ok (.invokevirtual 62, 3) := by decide +kernel
theorem d_Walk_putGroup_38 : decode prog_5_method_16_code 38 = .ok (.aload_n 0, 1) := by decide +kernel
theorem d_Walk_putGroup_39 : decode prog_5_method_16_code 39 = .ok (.iload_n 1, 1) := by decide +kernel
theorem d_Walk_putGroup_40 : decode prog_5_method_16_code 40 = .ok (.invokestatic 86, 3) := by decide +kernel
theorem d_Walk_putGroup_43 : decode prog_5_method_16_code 43 = .ok (.i2l, 1) := by decide +kernel
theorem d_Walk_putGroup_44 : decode prog_5_method_16_code 44 = .ok (.iconst 1, 1) := by decide +kernel
theorem d_Walk_putGroup_45 : decode prog_5_method_16_code 45 = .ok (.invokevirtual 62, 3) := by decide +kernel
theorem d_Walk_putGroup_48 : decode prog_5_method_16_code 48 = .ok (.iload_n 3, 1) := by decide +kernel
theorem d_Walk_putGroup_49 : decode prog_5_method_16_code 49 = .ok (.ifCond .eq 23, 3) := by decide +kernel
theorem d_Walk_putGroup_52 : decode prog_5_method_16_code 52 = .ok (.aload_n 0, 1) := by decide +kernel
theorem d_Walk_putGroup_53 : decode prog_5_method_16_code 53 = .ok (.iload_n 1, 1) := by decide +kernel
theorem d_Walk_putGroup_54 : decode prog_5_method_16_code 54 = .ok (.invokestatic 89, 3) := by decide +kernel
theorem d_Walk_putGroup_57 : decode prog_5_method_16_code 57 = .ok (.i2l, 1) := by decide +kernel
theorem d_Walk_putGroup_58 : decode prog_5_method_16_code 58 = .ok (.iconst 1, 1) := by decide +kernel
theorem d_Walk_putGroup_59 : decode prog_5_method_16_code 59 = .ok (.invokevirtual 62, 3) := by decide +kernel
theorem d_Walk_putGroup_62 : decode prog_5_method_16_code 62 = .ok (.aload_n 0, 1) := by decide +kernel
theorem d_Walk_putGroup_63 : decode prog_5_method_16_code 63 = .ok (.iload_n 1, 1) := by decide +kernel
theorem d_Walk_putGroup_64 : decode prog_5_method_16_code 64 = .ok (.invokestatic 92, 3) := by decide +kernel
theorem d_Walk_putGroup_67 : decode prog_5_method_16_code 67 = .ok (.i2l, 1) := by decide +kernel
theorem d_Walk_putGroup_68 : decode prog_5_method_16_code 68 = .ok (.iconst 1, 1) := by decide +kernel
theorem d_Walk_putGroup_69 : decode prog_5_method_16_code 69 = .ok (.invokevirtual 62, 3) := by decide +kernel
theorem d_Walk_putGroup_72 : decode prog_5_method_16_code 72 = .ok (.return_, 1) := by decide +kernel
theorem d_Walk_putGroups_0 : decode prog_5_method_15_code 0 = .ok (.iconst 0, 1) := by decide +kernel
theorem d_Walk_putGroups_1 : decode prog_5_method_15_code 1 = .ok (.istore_n 2, 1) := by decide +kernel
theorem d_Walk_putGroups_2 : decode prog_5_method_15_code 2 = .ok (.iconst 0, 1) := by decide +kernel
theorem d_Walk_putGroups_3 : decode prog_5_method_15_code 3 = .ok (.istore_n 3, 1) := by decide +kernel
theorem d_Walk_putGroups_4 : decode prog_5_method_15_code 4 = .ok (.iload_n 3, 1) := by decide +kernel
theorem d_Walk_putGroups_5 : decode prog_5_method_15_code 5 = .ok (.aload_n 0, 1) := by decide +kernel
theorem d_Walk_putGroups_6 : decode prog_5_method_15_code 6 = .ok (.getfield 15, 3) := by decide +kernel
theorem d_Walk_putGroups_9 : decode prog_5_method_15_code 9 = .ok (.if_icmp .ge 33, 3) := by decide +kernel
theorem d_Walk_putGroups_12 : decode prog_5_method_15_code 12 = .ok (.iinc 2 1, 3) := by decide +kernel
theorem d_Walk_putGroups_15 : decode prog_5_method_15_code 15 = .ok (.aload_n 0, 1) := by decide +kernel
theorem d_Walk_putGroups_16 : decode prog_5_method_15_code 16 = .ok (.iload_n 3, 1) := by decide +kernel
theorem d_Walk_putGroups_17 : decode prog_5_method_15_code 17 = .ok (.iload_n 2, 1) := by decide +kernel
theorem d_Walk_putGroups_18 : decode prog_5_method_15_code 18 = .ok (.invokevirtual 55, 3) := by decide +kernel
theorem d_Walk_putGroups_21 : decode prog_5_method_15_code 21 = .ok (.ifCond .eq 15, 3) := by decide +kernel
theorem d_Walk_putGroups_24 : decode prog_5_method_15_code 24 = .ok (.aload_n 1, 1) := by decide +kernel
theorem d_Walk_putGroups_25 : decode prog_5_method_15_code 25 = .ok (.aload_n 0, 1) := by decide +kernel
theorem d_Walk_putGroups_26 : decode prog_5_method_15_code 26 = .ok (.iload_n 3, 1) := by decide +kernel
theorem d_Walk_putGroups_27 : decode prog_5_method_15_code 27 = .ok (.invokevirtual 38, 3) := by decide +kernel
theorem d_Walk_putGroups_30 : decode prog_5_method_15_code 30 = .ok (.iload_n 2, 1) := by decide +kernel
theorem d_Walk_putGroups_31 : decode prog_5_method_15_code 31 = .ok (.invokestatic 79, 3) := by decide +kernel
theorem d_Walk_putGroups_34 : decode prog_5_method_15_code 34 = .ok (.iconst 0, 1) := by decide +kernel
theorem d_Walk_putGroups_35 : decode prog_5_method_15_code 35 = .ok (.istore_n 2, 1) := by decide +kernel
theorem d_Walk_putGroups_36 : decode prog_5_method_15_code 36 = .ok (.iinc 3 1, 3) := by decide +kernel
theorem d_Walk_putGroups_39 : decode prog_5_method_15_code 39 = .ok (.goto (-35), 3) := by decide +kernel
theorem d_Walk_putGroups_42 : decode prog_5_method_15_code 42 = .ok (.return_, 1) := by decide +kernel
theorem d_Walk_putInto_0 : decode prog_5_method_14_code 0 = .ok (.iconst 0, 1) := by decide +kernel
theorem d_Walk_putInto_1 : decode prog_5_method_14_code 1 = .ok (.istore_n 2, 1) := by decide +kernel
theorem d_Walk_putInto_2 : decode prog_5_method_14_code 2 = .ok (.iload_n 2, 1) := by decide +kernel
theorem d_Walk_putInto_3 : decode prog_5_method_14_code 3 = .ok (.getstatic 59, 3) := by decide +kernel
theorem d_Walk_putInto_6 : decode prog_5_method_14_code 6 = .ok (.arraylength, 1) := by decide +kernel
theorem d_Walk_putInto_7 : decode prog_5_method_14_code 7 = .ok (.if_icmp .ge 20, 3) := by decide +kernel
theorem d_Walk_putInto_10 : decode prog_5_method_14_code 10 = .ok (.aload_n 1, 1) := by decide +kernel
theorem d_Walk_putInto_11 : decode prog_5_method_14_code 11 = .ok (.getstatic 59, 3) := by decide +kernel
theorem d_Walk_putInto_14 : decode prog_5_method_14_code 14 = .ok (.iload_n 2, 1) := by decide +kernel
theorem d_Walk_putInto_15 : decode prog_5_method_14_code 15 = .ok (.iaload, 1) := by decide +kernel
theorem d_Walk_putInto_16 : decode prog_5_method_14_code 16 = .ok (.i2l, 1) := by decide +kernel
theorem d_Walk_putInto_17 : decode prog_5_method_14_code 17 = .ok (.iconst 1, 1) := by decide +kernel
theorem d_Walk_putInto_18 : decode prog_5_method_14_code 18 = .ok (.invokevirtual 62, 3) := by decide +kernel
theorem d_Walk_putInto_21 : decode prog_5_method_14_code 21 = .ok (.iinc 2 1, 3) := by decide +kernel
theorem d_Walk_putInto_24 : decode prog_5_method_14_code 24 = .ok (.goto (-22), 3) := by decide +kernel
theorem d_Walk_putInto_27 : decode prog_5_method_14_code 27 = .ok (.aload_n 1, 1) := by decide +kernel
theorem d_Walk_putInto_28 : decode prog_5_method_14_code 28 = .ok (.aload_n 0, 1) := by decide +kernel
theorem d_Walk_putInto_29 : decode prog_5_method_14_code 29 = .ok (.getfield 19, 3) := by decide +kernel
theorem d_Walk_putInto_32 : decode prog_5_method_14_code 32 = .ok (.i2l, 1) := by decide +kernel
theorem d_Walk_putInto_33 : decode prog_5_method_14_code 33 = .ok (.iconst 2, 1) := by decide +kernel
theorem d_Walk_putInto_34 : decode prog_5_method_14_code 34 = .ok (.invokevirtual 62, 3) := by decide +kernel
theorem d_Walk_putInto_37 : decode prog_5_method_14_code 37 = .ok (.aload_n 1, 1) := by decide +kernel
theorem d_Walk_putInto_38 : decode prog_5_method_14_code 38 = .ok (.aload_n 0, 1) := by decide +kernel
theorem d_Walk_putInto_39 : decode prog_5_method_14_code 39 = .ok (.getfield 22, 3) := by decide +kernel
theorem d_Walk_putInto_42 : decode prog_5_method_14_code 42 = .ok (.i2l, 1) := by decide +kernel
theorem d_Walk_putInto_43 : decode prog_5_method_14_code 43 = .ok (.iconst 2, 1) := by decide +kernel
theorem d_Walk_putInto_44 : decode prog_5_method_14_code 44 = .ok (.invokevirtual 62, 3) := by decide +kernel
theorem d_Walk_putInto_47 : decode prog_5_method_14_code 47 = .ok (.aload_n 1, 1) := by decide +kernel
theorem d_Walk_putInto_48 : decode prog_5_method_14_code 48 = .ok (.aload_n 0, 1) := by decide +kernel
theorem d_Walk_putInto_49 : decode prog_5_method_14_code 49 = .ok (.getfield 25, 3) := by decide +kernel
theorem d_Walk_putInto_52 : decode prog_5_method_14_code 52 = .ok (.i2l, 1) := by decide +kernel
theorem d_Walk_putInto_53 : decode prog_5_method_14_code 53 = .ok (.iconst 1, 1) := by decide +kernel
theorem d_Walk_putInto_54 : decode prog_5_method_14_code 54 = .ok (.invokevirtual 62, 3) := by decide +kernel
theorem d_Walk_putInto_57 : decode prog_5_method_14_code 57 = .ok (.aload_n 1, 1) := by decide +kernel
theorem d_Walk_putInto_58 : decode prog_5_method_14_code 58 = .ok (.aload_n 0, 1) := by decide +kernel
theorem d_Walk_putInto_59 : decode prog_5_method_14_code 59 = .ok (.getfield 28, 3) := by decide +kernel
theorem d_Walk_putInto_62 : decode prog_5_method_14_code 62 = .ok (.i2l, 1) := by decide +kernel
theorem d_Walk_putInto_63 : decode prog_5_method_14_code 63 = .ok (.iconst 1, 1) := by decide +kernel
theorem d_Walk_putInto_64 : decode prog_5_method_14_code 64 = .ok (.invokevirtual 62, 3) := by decide +kernel
theorem d_Walk_putInto_67 : decode prog_5_method_14_code 67 = .ok (.aload_n 0, 1) := by decide +kernel
theorem d_Walk_putInto_68 : decode prog_5_method_14_code 68 = .ok (.aload_n 1, 1) := by decide +kernel
theorem d_Walk_putInto_69 : decode prog_5_method_14_code 69 = .ok (.invokevirtual 68, 3) := by decide +kernel
