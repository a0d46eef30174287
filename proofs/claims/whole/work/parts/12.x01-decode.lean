theorem d_Mo_checkByte_36 : decode prog_7_method_11_code 36 = .ok (.ireturn, 1) := by decide +kernel
theorem d_Mo_write_0 : decode prog_7_method_12_code 0 = .ok (.aload_n 0, 1) := by decide +kernel
theorem d_Mo_write_1 : decode prog_7_method_12_code 1 = .ok (.iconst 0, 1) := by decide +kernel
theorem d_Mo_write_2 : decode prog_7_method_12_code 2 = .ok (.putfield 51, 3) := by decide +kernel
theorem d_Mo_write_5 : decode prog_7_method_12_code 5 = .ok (.aload_n 0, 1) := by decide +kernel
theorem d_Mo_write_6 : decode prog_7_method_12_code 6 = .ok (.iconst 0, 1) := by decide +kernel
theorem d_Mo_write_7 : decode prog_7_method_12_code 7 = .ok (.putfield 61, 3) := by decide +kernel
theorem d_Mo_write_10 : decode prog_7_method_12_code 10 = .ok (.aload_n 0, 1) := by decide +kernel
theorem d_Mo_write_11 : decode prog_7_method_12_code 11 = .ok (.bipush 77, 2) := by decide +kernel
theorem d_Mo_write_13 : decode prog_7_method_12_code 13 = .ok (.invokevirtual 71, 3) := by decide +kernel
theorem d_Mo_write_16 : decode prog_7_method_12_code 16 = .ok (.aload_n 0, 1) := by decide +kernel
theorem d_Mo_write_17 : decode prog_7_method_12_code 17 = .ok (.bipush 68, 2) := by decide +kernel
theorem d_Mo_write_19 : decode prog_7_method_12_code 19 = .ok (.invokevirtual 71, 3) := by decide +kernel
theorem d_Mo_write_22 : decode prog_7_method_12_code 22 = .ok (.aload_n 0, 1) := by decide +kernel
theorem d_Mo_write_23 : decode prog_7_method_12_code 23 = .ok (.iconst 1, 1) := by decide +kernel
theorem d_Mo_write_24 : decode prog_7_method_12_code 24 = .ok (.invokevirtual 71, 3) := by decide +kernel
theorem d_Mo_write_27 : decode prog_7_method_12_code 27 = .ok (.iconst 0, 1) := by decide +kernel
theorem d_Mo_write_28 : decode prog_7_method_12_code 28 = .ok (.istore_n 1, 1) := by decide +kernel
theorem d_Mo_write_29 : decode prog_7_method_12_code 29 = .ok (.iload_n 1, 1) := by decide +kernel
theorem d_Mo_write_30 : decode prog_7_method_12_code 30 = .ok (.iconst 2, 1) := by decide +kernel
theorem d_Mo_write_31 : decode prog_7_method_12_code 31 = .ok (.if_icmp .ge 32, 3) := by decide +kernel
theorem d_Mo_write_34 : decode prog_7_method_12_code 34 = .ok (.aload_n 0, 1) := by decide +kernel
theorem d_Mo_write_35 : decode prog_7_method_12_code 35 = .ok (.aload_n 0, 1) := by decide +kernel
theorem d_Mo_write_36 : decode prog_7_method_12_code 36 = .ok (.getfield 7, 3) := by decide +kernel
theorem d_Mo_write_39 : decode prog_7_method_12_code 39 = .ok (.iload_n 1, 1) := by decide +kernel
theorem d_Mo_write_40 : decode prog_7_method_12_code 40 = .ok (.iaload, 1) := by decide +kernel
theorem d_Mo_write_41 : decode prog_7_method_12_code 41 = .ok (.bipush 8, 2) := by decide +kernel
theorem d_Mo_write_43 : decode prog_7_method_12_code 43 = .ok (.ishr, 1) := by decide +kernel
theorem d_Mo_write_44 : decode prog_7_method_12_code 44 = .ok (.invokevirtual 71, 3) := by decide +kernel
theorem d_Mo_write_47 : decode prog_7_method_12_code 47 = .ok (.aload_n 0, 1) := by decide +kernel
theorem d_Mo_write_48 : decode prog_7_method_12_code 48 = .ok (.aload_n 0, 1) := by decide +kernel
theorem d_Mo_write_49 : decode prog_7_method_12_code 49 = .ok (.getfield 7, 3) := by decide +kernel
theorem d_Mo_write_52 : decode prog_7_method_12_code 52 = .ok (.iload_n 1, 1) := by decide +kernel
theorem d_Mo_write_53 : decode prog_7_method_12_code 53 = .ok (.iaload, 1) := by decide +kernel
theorem d_Mo_write_54 : decode prog_7_method_12_code 54 = .ok (.invokevirtual 71, 3) := by decide +kernel
theorem d_Mo_write_57 : decode prog_7_method_12_code 57 = .ok (.iinc 1 1, 3) := by decide +kernel
theorem d_Mo_write_60 : decode prog_7_method_12_code 60 = .ok (.goto (-31), 3) := by decide +kernel
theorem d_Mo_write_63 : decode prog_7_method_12_code 63 = .ok (.aload_n 0, 1) := by decide +kernel
theorem d_Mo_write_64 : decode prog_7_method_12_code 64 = .ok (.aload_n 0, 1) := by decide +kernel
theorem d_Mo_write_65 : decode prog_7_method_12_code 65 = .ok (.getfield 7, 3) := by decide +kernel
theorem d_Mo_write_68 : decode prog_7_method_12_code 68 = .ok (.iconst 2, 1) := by decide +kernel
theorem d_Mo_write_69 : decode prog_7_method_12_code 69 = .ok (.iaload, 1) := by decide +kernel
theorem d_Mo_write_70 : decode prog_7_method_12_code 70 = .ok (.invokevirtual 71, 3) := by decide +kernel
theorem d_Mo_write_73 : decode prog_7_method_12_code 73 = .ok (.aload_n 0, 1) := by decide +kernel
theorem d_Mo_write_74 : decode prog_7_method_12_code 74 = .ok (.aload_n 0, 1) := by decide +kernel
theorem d_Mo_write_75 : decode prog_7_method_12_code 75 = .ok (.getfield 7, 3) := by decide +kernel
theorem d_Mo_write_78 : decode prog_7_method_12_code 78 = .ok (.iconst 3, 1) := by decide +kernel
theorem d_Mo_write_79 : decode prog_7_method_12_code 79 = .ok (.iaload, 1) := by decide +kernel
theorem d_Mo_write_80 : decode prog_7_method_12_code 80 = .ok (.invokevirtual 71, 3) := by decide +kernel
theorem d_Mo_write_83 : decode prog_7_method_12_code 83 = .ok (.iconst 0, 1) := by decide +kernel
theorem d_Mo_write_84 : decode prog_7_method_12_code 84 = .ok (.istore_n 1, 1) := by decide +kernel
theorem d_Mo_write_85 : decode prog_7_method_12_code 85 = .ok (.iload_n 1, 1) := by decide +kernel
theorem d_Mo_write_86 : decode prog_7_method_12_code 86 = .ok (.aload_n 0, 1) := by decide +kernel
theorem d_Mo_write_87 : decode prog_7_method_12_code 87 = .ok (.getfield 58, 3) := by decide +kernel
theorem d_Mo_write_90 : decode prog_7_method_12_code 90 = .ok (.if_icmp .ge 116, 3) := by decide +kernel
theorem d_Mo_write_93 : decode prog_7_method_12_code 93 = .ok (.aload_n 0, 1) := by decide +kernel
theorem d_Mo_write_94 : decode prog_7_method_12_code 94 = .ok (.iload_n 1, 1) := by decide +kernel
theorem d_Mo_write_95 : decode prog_7_method_12_code 95 = .ok (.invokevirtual 75, 3) := by decide +kernel
theorem d_Mo_write_98 : decode prog_7_method_12_code 98 = .ok (.istore_n 2, 1) := by decide +kernel
theorem d_Mo_write_99 : decode prog_7_method_12_code 99 = .ok (.aload_n 0, 1) := by decide +kernel
theorem d_Mo_write_100 : decode prog_7_method_12_code 100 = .ok (.getfield 16, 3) := by decide +kernel
theorem d_Mo_write_103 : decode prog_7_method_12_code 103 = .ok (.iload_n 1, 1) := by decide +kernel
theorem d_Mo_write_104 : decode prog_7_method_12_code 104 = .ok (.iaload, 1) := by decide +kernel
theorem d_Mo_write_105 : decode prog_7_method_12_code 105 = .ok (.ifCond .ne 12, 3) := by decide +kernel
theorem d_Mo_write_108 : decode prog_7_method_12_code 108 = .ok (.aload_n 0, 1) := by decide +kernel
theorem d_Mo_write_109 : decode prog_7_method_12_code 109 = .ok (.getfield 19, 3) := by decide +kernel
theorem d_Mo_write_112 : decode prog_7_method_12_code 112 = .ok (.iload_n 1, 1) := by decide +kernel
theorem d_Mo_write_113 : decode prog_7_method_12_code 113 = .ok (.iaload, 1) := by decide +kernel
theorem d_Mo_write_114 : decode prog_7_method_12_code 114 = .ok (.ifCond .eq 7, 3) := by decide +kernel
theorem d_Mo_write_117 : decode prog_7_method_12_code 117 = .ok (.iconst 1, 1) := by decide +kernel
theorem d_Mo_write_118 : decode prog_7_method_12_code 118 = .ok (.goto 4, 3) := by decide +kernel
theorem d_Mo_write_121 : decode prog_7_method_12_code 121 = .ok (.iconst 0, 1) := by decide +kernel
theorem d_Mo_write_122 : decode prog_7_method_12_code 122 = .ok (.istore_n 3, 1) := by decide +kernel
theorem d_Mo_write_123 : decode prog_7_method_12_code 123 = .ok (.aload_n 0, 1) := by decide +kernel
theorem d_Mo_write_124 : decode prog_7_method_12_code 124 = .ok (.iload_n 2, 1) := by decide +kernel
theorem d_Mo_write_125 : decode prog_7_method_12_code 125 = .ok (.aload_n 0, 1) := by decide +kernel
theorem d_Mo_write_126 : decode prog_7_method_12_code 126 = .ok (.getfield 22, 3) := by decide +kernel
theorem d_Mo_write_129 : decode prog_7_method_12_code 129 = .ok (.iload_n 1, 1) := by decide +kernel
theorem d_Mo_write_130 : decode prog_7_method_12_code 130 = .ok (.baload, 1) := by decide +kernel
theorem d_Mo_write_131 : decode prog_7_method_12_code 131 = .ok (.ifCond .eq 8, 3) := by decide +kernel
theorem d_Mo_write_134 : decode prog_7_method_12_code 134 = .ok (.bipush 64, 2) := by decide +kernel
theorem d_Mo_write_136 : decode prog_7_method_12_code 136 = .ok (.goto 4, 3) := by decide +kernel
theorem d_Mo_write_139 : decode prog_7_method_12_code 139 = .ok (.iconst 0, 1) := by decide +kernel
theorem d_Mo_write_140 : decode prog_7_method_12_code 140 = .ok (.iadd, 1) := by decide +kernel
theorem d_Mo_write_141 : decode prog_7_method_12_code 141 = .ok (.iload_n 3, 1) := by decide +kernel
theorem d_Mo_write_142 : decode prog_7_method_12_code 142 = .ok (.ifCond .eq 9, 3) := by decide +kernel
theorem d_Mo_write_145 : decode prog_7_method_12_code 145 = .ok (.sipush 128, 3) := by decide +kernel
theorem d_Mo_write_148 : decode prog_7_method_12_code 148 = .ok (.goto 4, 3) := by decide +kernel
theorem d_Mo_write_151 : decode prog_7_method_12_code 151 = .ok (.iconst 0, 1) := by decide +kernel
theorem d_Mo_write_152 : decode prog_7_method_12_code 152 = .ok (.iadd, 1) := by decide +kernel
theorem d_Mo_write_153 : decode prog_7_method_12_code 153 = .ok (.invokevirtual 71, 3) := by decide +kernel
theorem d_Mo_write_156 : decode prog_7_method_12_code 156 = .ok (.aload_n 0, 1) := by decide +kernel
theorem d_Mo_write_157 : decode prog_7_method_12_code 157 = .ok (.aload_n 0, 1) := by decide +kernel
theorem d_Mo_write_158 : decode prog_7_method_12_code 158 = .ok (.getfield 13, 3) := by decide +kernel
theorem d_Mo_write_161 : decode prog_7_method_12_code 161 = .ok (.iload_n 1, 1) := by decide +kernel
theorem d_Mo_write_162 : decode prog_7_method_12_code 162 = .ok (.iaload, 1) := by decide +kernel
theorem d_Mo_write_163 : decode prog_7_method_12_code 163 = .ok (.bipush 64, 2) := by decide +kernel
theorem d_Mo_write_165 : decode prog_7_method_12_code 165 = .ok (.iadd, 1) := by decide +kernel
theorem d_Mo_write_166 : decode prog_7_method_12_code 166 = .ok (.invokevirtual 71, 3) := by decide +kernel
theorem d_Mo_write_169 : decode prog_7_method_12_code 169 = .ok (.iload_n 3, 1) := by decide +kernel
theorem d_Mo_write_170 : decode prog_7_method_12_code 170 = .ok (.ifCond .eq 29, 3) := by decide +kernel
theorem d_Mo_write_173 : decode prog_7_method_12_code 173 = .ok (.aload_n 0, 1) := by decide +kernel
theorem d_Mo_write_174 : decode prog_7_method_12_code 174 = .ok (.aload_n 0, 1) := by decide +kernel
theorem d_Mo_write_175 : decode prog_7_method_12_code 175 = .ok (.getfield 16, 3) := by decide +kernel
theorem d_Mo_write_178 : decode prog_7_method_12_code 178 = .ok (.iload_n 1, 1) := by decide +kernel
theorem d_Mo_write_179 : decode prog_7_method_12_code 179 = .ok (.iaload, 1) := by decide +kernel
theorem d_Mo_write_180 : decode prog_7_method_12_code 180 = .ok (.bipush 64, 2) := by decide +kernel
theorem d_Mo_write_182 : decode prog_7_method_12_code 182 = .ok (.iadd, 1) := by decide +kernel
theorem d_Mo_write_183 : decode prog_7_method_12_code 183 = .ok (.invokevirtual 71, 3) := by decide +kernel
theorem d_Mo_write_186 : decode prog_7_method_12_code 186 = .ok (.aload_n 0, 1) := by decide +kernel
theorem d_Mo_write_187 : decode prog_7_method_12_code 187 = .ok (.aload_n 0, 1) := by decide +kernel
theorem d_Mo_write_188 : decode prog_7_method_12_code 188 = .ok (.getfield 19, 3) := by decide +kernel
theorem d_Mo_write_191 : decode prog_7_method_12_code 191 = .ok (.iload_n 1, 1) := by decide +kernel
theorem d_Mo_write_192 : decode prog_7_method_12_code 192 = .ok (.iaload, 1) := by decide +kernel
theorem d_Mo_write_193 : decode prog_7_method_12_code 193 = .ok (.bipush 16, 2) := by decide +kernel
theorem d_Mo_write_195 : decode prog_7_method_12_code 195 = .ok (.iadd, 1) := by decide +kernel
theorem d_Mo_write_196 : decode prog_7_method_12_code 196 = .ok (.invokevirtual 71, 3) := by decide +kernel
theorem d_Mo_write_199 : decode prog_7_method_12_code 199 = .ok (.iload_n 1, 1) := by decide +kernel
theorem d_Mo_write_200 : decode prog_7_method_12_code 200 = .ok (.iload_n 2, 1) := by decide +kernel
theorem d_Mo_write_201 : decode prog_7_method_12_code 201 = .ok (.iadd, 1) := by decide +kernel
theorem d_Mo_write_202 : decode prog_7_method_12_code 202 = .ok (.istore_n 1, 1) := by decide +kernel
theorem d_Mo_write_203 : decode prog_7_method_12_code 203 = .ok (.goto (-118), 3) := by decide +kernel
theorem d_Mo_write_206 : decode prog_7_method_12_code 206 = .ok (.aload_n 0, 1) := by decide +kernel
theorem d_Mo_write_207 : decode prog_7_method_12_code 207 = .ok (.iconst 0, 1) := by decide +kernel
theorem d_Mo_write_208 : decode prog_7_method_12_code 208 = .ok (.invokevirtual 71, 3) := by decide +kernel
theorem d_Mo_write_211 : decode prog_7_method_12_code 211 = .ok (.aload_n 0, 1) := by decide +kernel
theorem d_Mo_write_212 : decode prog_7_method_12_code 212 = .ok (.iconst 1, 1) := by decide +kernel
theorem d_Mo_write_213 : decode prog_7_method_12_code 213 = .ok (.putfield 64, 3) := by decide +kernel
theorem d_Mo_write_216 : decode prog_7_method_12_code 216 = .ok (.aload_n 0, 1) := by decide +kernel
theorem d_Mo_write_217 : decode prog_7_method_12_code 217 = .ok (.iconst 0, 1) := by decide +kernel
theorem d_Mo_write_218 : decode prog_7_method_12_code 218 = .ok (.putfield 68, 3) := by decide +kernel
theorem d_Mo_write_221 : decode prog_7_method_12_code 221 = .ok (.iconst 0, 1) := by decide +kernel
theorem d_Mo_write_222 : decode prog_7_method_12_code 222 = .ok (.istore_n 2, 1) := by decide +kernel
theorem d_Mo_write_223 : decode prog_7_method_12_code 223 = .ok (.iload_n 2, 1) := by decide +kernel
theorem d_Mo_write_224 : decode prog_7_method_12_code 224 = .ok (.aload_n 0, 1) := by decide +kernel
theorem d_Mo_write_225 : decode prog_7_method_12_code 225 = .ok (.getfield 61, 3) := by decide +kernel
theorem d_Mo_write_228 : decode prog_7_method_12_code 228 = .ok (.if_icmp .ge 19, 3) := by decide +kernel
theorem d_Mo_write_231 : decode prog_7_method_12_code 231 = .ok (.aload_n 0, 1) := by decide +kernel
theorem d_Mo_write_232 : decode prog_7_method_12_code 232 = .ok (.aload_n 0, 1) := by decide +kernel
theorem d_Mo_write_233 : decode prog_7_method_12_code 233 = .ok (.getfield 26, 3) := by decide +kernel
theorem d_Mo_write_236 : decode prog_7_method_12_code 236 = .ok (.iload_n 2, 1) := by decide +kernel
theorem d_Mo_write_237 : decode prog_7_method_12_code 237 = .ok (.iaload, 1) := by decide +kernel
theorem d_Mo_write_238 : decode prog_7_method_12_code 238 = .ok (.invokevirtual 79, 3) := by decide +kernel
theorem d_Mo_write_241 : decode prog_7_method_12_code 241 = .ok (.iinc 2 1, 3) := by decide +kernel
theorem d_Mo_write_244 : decode prog_7_method_12_code 244 = .ok (.goto (-21), 3) := by decide +kernel
theorem d_Mo_write_247 : decode prog_7_method_12_code 247 = .ok (.iconst 0, 1) := by decide +kernel
theorem d_Mo_write_248 : decode prog_7_method_12_code 248 = .ok (.istore_n 2, 1) := by decide +kernel
theorem d_Mo_write_249 : decode prog_7_method_12_code 249 = .ok (.iload_n 2, 1) := by decide +kernel
theorem d_Mo_write_250 : decode prog_7_method_12_code 250 = .ok (.iconst 4, 1) := by decide +kernel
theorem d_Mo_write_251 : decode prog_7_method_12_code 251 = .ok (.if_icmp .ge 18, 3) := by decide +kernel
theorem d_Mo_write_254 : decode prog_7_method_12_code 254 = .ok (.aload_n 0, 1) := by decide +kernel
theorem d_Mo_write_255 : decode prog_7_method_12_code 255 = .ok (.aload_n 0, 1) := by decide +kernel
theorem d_Mo_write_256 : decode prog_7_method_12_code 256 = .ok (.iload_n 2, 1) := by decide +kernel
theorem d_Mo_write_257 : decode prog_7_method_12_code 257 = .ok (.invokevirtual 82, 3) := by decide +kernel
theorem d_Mo_write_260 : decode prog_7_method_12_code 260 = .ok (.invokevirtual 71, 3) := by decide +kernel
theorem d_Mo_write_263 : decode prog_7_method_12_code 263 = .ok (.iinc 2 1, 3) := by decide +kernel
theorem d_Mo_write_266 : decode prog_7_method_12_code 266 = .ok (.goto (-17), 3) := by decide +kernel
theorem d_Mo_write_269 : decode prog_7_method_12_code 269 = .ok (.aload_n 0, 1) := by decide +kernel
theorem d_Mo_write_270 : decode prog_7_method_12_code 270 = .ok (.getfield 61, 3) := by decide +kernel
theorem d_Mo_write_273 : decode prog_7_method_12_code 273 = .ok (.ireturn, 1) := by decide +kernel
theorem d_Mo_give_0 : decode prog_7_method_13_code 0 = .ok (.aload_n 0, 1) := by decide +kernel
theorem d_Mo_give_1 : decode prog_7_method_13_code 1 = .ok (.iconst 0, 1) := by decide +kernel
theorem d_Mo_give_2 : decode prog_7_method_13_code 2 = .ok (.putfield 51, 3) := by decide +kernel
theorem d_Mo_give_5 : decode prog_7_method_13_code 5 = .ok (.iload_n 3, 1) := by decide +kernel
theorem d_Mo_give_6 : decode prog_7_method_13_code 6 = .ok (.iconst 1, 1) := by decide +kernel
theorem d_Mo_give_7 : decode prog_7_method_13_code 7 = .ok (.if_icmp .lt 21, 3) := by decide +kernel
theorem d_Mo_give_10 : decode prog_7_method_13_code 10 = .ok (.iload_n 3, 1) := by decide +kernel
theorem d_Mo_give_11 : decode prog_7_method_13_code 11 = .ok (.bipush 8, 2) := by decide +kernel
theorem d_Mo_give_13 : decode prog_7_method_13_code 13 = .ok (.if_icmp .gt 15, 3) := by decide +kernel
theorem d_Mo_give_16 : decode prog_7_method_13_code 16 = .ok (.aload_n 0, 1) := by decide +kernel
theorem d_Mo_give_17 : decode prog_7_method_13_code 17 = .ok (.getfield 85, 3) := by decide +kernel
theorem d_Mo_give_20 : decode prog_7_method_13_code 20 = .ok (.iload_n 3, 1) := by decide +kernel
theorem d_Mo_give_21 : decode prog_7_method_13_code 21 = .ok (.iadd, 1) := by decide +kernel
theorem d_Mo_give_22 : decode prog_7_method_13_code 22 = .ok (.sipush 8192, 3) := by decide +kernel
theorem d_Mo_give_25 : decode prog_7_method_13_code 25 = .ok (.if_icmp .le 5, 3) := by decide +kernel
theorem d_Mo_give_28 : decode prog_7_method_13_code 28 = .ok (.iconst 0, 1) := by decide +kernel
theorem d_Mo_give_29 : decode prog_7_method_13_code 29 = .ok (.ireturn, 1) := by decide +kernel
theorem d_Mo_give_30 : decode prog_7_method_13_code 30 = .ok (.iload_n 3, 1) := by decide +kernel
theorem d_Mo_give_31 : decode prog_7_method_13_code 31 = .ok (.iconst 1, 1) := by decide +kernel
theorem d_Mo_give_32 : decode prog_7_method_13_code 32 = .ok (.isub, 1) := by decide +kernel
theorem d_Mo_give_33 : decode prog_7_method_13_code 33 = .ok (.istore 4, 2) := by decide +kernel
theorem d_Mo_give_35 : decode prog_7_method_13_code 35 = .ok (.iload 4, 2) := by decide +kernel
theorem d_Mo_give_37 : decode prog_7_method_13_code 37 = .ok (.ifCond .lt 40, 3) := by decide +kernel
theorem d_Mo_give_40 : decode prog_7_method_13_code 40 = .ok (.aload_n 0, 1) := by decide +kernel
theorem d_Mo_give_41 : decode prog_7_method_13_code 41 = .ok (.getfield 29, 3) := by decide +kernel
theorem d_Mo_give_44 : decode prog_7_method_13_code 44 = .ok (.aload_n 0, 1) := by decide +kernel
theorem d_Mo_give_45 : decode prog_7_method_13_code 45 = .ok (.getfield 85, 3) := by decide +kernel
theorem d_Mo_give_48 : decode prog_7_method_13_code 48 = .ok (.lload_n 1, 1) := by decide +kernel
theorem d_Mo_give_49 : decode prog_7_method_13_code 49 = .ok (.bipush 8, 2) := by decide +kernel
theorem d_Mo_give_51 : decode prog_7_method_13_code 51 = .ok (.iload 4, 2) := by decide +kernel
theorem d_Mo_give_53 : decode prog_7_method_13_code 53 = .ok (.imul, 1) := by decide +kernel
theorem d_Mo_give_54 : decode prog_7_method_13_code 54 = .ok (.lshr, 1) := by decide +kernel
theorem d_Mo_give_55 : decode prog_7_method_13_code 55 = .ok (.ldc2_w 88, 3) := by decide +kernel
theorem d_Mo_give_58 : decode prog_7_method_13_code 58 = .ok (.land, 1) := by decide +kernel
theorem d_Mo_give_59 : decode prog_7_method_13_code 59 = .ok (.l2i, 1) := by decide +kernel
theorem d_Mo_give_60 : decode prog_7_method_13_code 60 = .ok (.iastore, 1) := by decide +kernel
theorem d_Mo_give_61 : decode prog_7_method_13_code 61 = .ok (.aload_n 0, 1) := by decide +kernel
theorem d_Mo_give_62 : decode prog_7_method_13_code 62 = .ok (.dup, 1) := by decide +kernel
theorem d_Mo_give_63 : decode prog_7_method_13_code 63 = .ok (.getfield 85, 3) := by decide +kernel
theorem d_Mo_give_66 : decode prog_7_method_13_code 66 = .ok (.iconst 1, 1) := by decide +kernel
theorem d_Mo_give_67 : decode prog_7_method_13_code 67 = .ok (.iadd, 1) := by decide +kernel
theorem d_Mo_give_68 : decode prog_7_method_13_code 68 = .ok (.putfield 85, 3) := by decide +kernel
theorem d_Mo_give_71 : decode prog_7_method_13_code 71 = .ok (.iinc 4 (-1), 3) := by decide +kernel
theorem d_Mo_give_74 : decode prog_7_method_13_code 74 = .ok (.goto (-39), 3) := by decide +kernel
theorem d_Mo_give_77 : decode prog_7_method_13_code 77 = .ok (.iconst 1, 1) := by decide +kernel
theorem d_Mo_give_78 : decode prog_7_method_13_code 78 = .ok (.ireturn, 1) := by decide +kernel
theorem d_Mo_turnOver_0 : decode prog_7_method_14_code 0 = .ok (.aload_n 0, 1) := by decide +kernel
theorem d_Mo_turnOver_1 : decode prog_7_method_14_code 1 = .ok (.iconst 0, 1) := by decide +kernel
theorem d_Mo_turnOver_2 : decode prog_7_method_14_code 2 = .ok (.putfield 51, 3) := by decide +kernel
theorem d_Mo_turnOver_5 : decode prog_7_method_14_code 5 = .ok (.iconst 0, 1) := by decide +kernel
theorem d_Mo_turnOver_6 : decode prog_7_method_14_code 6 = .ok (.istore_n 1, 1) := by decide +kernel
theorem d_Mo_turnOver_7 : decode prog_7_method_14_code 7 = .ok (.iload_n 1, 1) := by decide +kernel
theorem d_Mo_turnOver_8 : decode prog_7_method_14_code 8 = .ok (.aload_n 0, 1) := by decide +kernel
theorem d_Mo_turnOver_9 : decode prog_7_method_14_code 9 = .ok (.getfield 61, 3) := by decide +kernel
theorem d_Mo_turnOver_12 : decode prog_7_method_14_code 12 = .ok (.if_icmp .ge 21, 3) := by decide +kernel
theorem d_Mo_turnOver_15 : decode prog_7_method_14_code 15 = .ok (.aload_n 0, 1) := by decide +kernel
theorem d_Mo_turnOver_16 : decode prog_7_method_14_code 16 = .ok (.getfield 29, 3) := by decide +kernel
theorem d_Mo_turnOver_19 : decode prog_7_method_14_code 19 = .ok (.iload_n 1, 1) := by decide +kernel
theorem d_Mo_turnOver_20 : decode prog_7_method_14_code 20 = .ok (.aload_n 0, 1) := by decide +kernel
theorem d_Mo_turnOver_21 : decode prog_7_method_14_code 21 = .ok (.getfield 26, 3) := by decide +kernel
theorem d_Mo_turnOver_24 : decode prog_7_method_14_code 24 = .ok (.iload_n 1, 1) := by decide +kernel
theorem d_Mo_turnOver_25 : decode prog_7_method_14_code 25 = .ok (.iaload, 1) := by decide +kernel
theorem d_Mo_turnOver_26 : decode prog_7_method_14_code 26 = .ok (.iastore, 1) := by decide +kernel
theorem d_Mo_turnOver_27 : decode prog_7_method_14_code 27 = .ok (.iinc 1 1, 3) := by decide +kernel
theorem d_Mo_turnOver_30 : decode prog_7_method_14_code 30 = .ok (.goto (-23), 3) := by decide +kernel
theorem d_Mo_turnOver_33 : decode prog_7_method_14_code 33 = .ok (.aload_n 0, 1) := by decide +kernel
theorem d_Mo_turnOver_34 : decode prog_7_method_14_code 34 = .ok (.aload_n 0, 1) := by decide +kernel
theorem d_Mo_turnOver_35 : decode prog_7_method_14_code 35 = .ok (.getfield 61, 3) := by decide +kernel
theorem d_Mo_turnOver_38 : decode prog_7_method_14_code 38 = .ok (.putfield 85, 3) := by decide +kernel
theorem d_Mo_turnOver_41 : decode prog_7_method_14_code 41 = .ok (.return_, 1) := by decide +kernel
theorem d_Mo_cut_0 : decode prog_7_method_15_code 0 = .ok (.aload_n 0, 1) := by decide +kernel
theorem d_Mo_cut_1 : decode prog_7_method_15_code 1 = .ok (.iconst 0, 1) := by decide +kernel
theorem d_Mo_cut_2 : decode prog_7_method_15_code 2 = .ok (.putfield 51, 3) := by decide +kernel
theorem d_Mo_cut_5 : decode prog_7_method_15_code 5 = .ok (.iload_n 1, 1) := by decide +kernel
theorem d_Mo_cut_6 : decode prog_7_method_15_code 6 = .ok (.ifCond .lt 11, 3) := by decide +kernel
theorem d_Mo_cut_9 : decode prog_7_method_15_code 9 = .ok (.iload_n 1, 1) := by decide +kernel
theorem d_Mo_cut_10 : decode prog_7_method_15_code 10 = .ok (.aload_n 0, 1) := by decide +kernel
theorem d_Mo_cut_11 : decode prog_7_method_15_code 11 = .ok (.getfield 85, 3) := by decide +kernel
theorem d_Mo_cut_14 : decode prog_7_method_15_code 14 = .ok (.if_icmp .le 5, 3) := by decide +kernel
theorem d_Mo_cut_17 : decode prog_7_method_15_code 17 = .ok (.iconst 0, 1) := by decide +kernel
theorem d_Mo_cut_18 : decode prog_7_method_15_code 18 = .ok (.ireturn, 1) := by decide +kernel
theorem d_Mo_cut_19 : decode prog_7_method_15_code 19 = .ok (.aload_n 0, 1) := by decide +kernel
theorem d_Mo_cut_20 : decode prog_7_method_15_code 20 = .ok (.iload_n 1, 1) := by decide +kernel
theorem d_Mo_cut_21 : decode prog_7_method_15_code 21 = .ok (.putfield 85, 3) := by decide +kernel
theorem d_Mo_cut_24 : decode prog_7_method_15_code 24 = .ok (.iconst 1, 1) := by decide +kernel
theorem d_Mo_cut_25 : decode prog_7_method_15_code 25 = .ok (.ireturn, 1) := by decide +kernel
theorem d_Mo_poke_0 : decode prog_7_method_16_code 0 = .ok (.aload_n 0, 1) := by decide +kernel
theorem d_Mo_poke_1 : decode prog_7_method_16_code 1 = .ok (.iconst 0, 1) := by decide +kernel
theorem d_Mo_poke_2 : decode prog_7_method_16_code 2 = .ok (.putfield 51, 3) := by decide +kernel
theorem d_Mo_poke_5 : decode prog_7_method_16_code 5 = .ok (.iload_n 1, 1) := by decide +kernel
theorem d_Mo_poke_6 : decode prog_7_method_16_code 6 = .ok (.ifCond .lt 11, 3) := by decide +kernel
theorem d_Mo_poke_9 : decode prog_7_method_16_code 9 = .ok (.iload_n 1, 1) := by decide +kernel
theorem d_Mo_poke_10 : decode prog_7_method_16_code 10 = .ok (.aload_n 0, 1) := by decide +kernel
theorem d_Mo_poke_11 : decode prog_7_method_16_code 11 = .ok (.getfield 85, 3) := by decide +kernel
theorem d_Mo_poke_14 : decode prog_7_method_16_code 14 = .ok (.if_icmp .lt 5, 3) := by decide +kernel
theorem d_Mo_poke_17 : decode prog_7_method_16_code 17 = .ok (.iconst 0, 1) := by decide +kernel
theorem d_Mo_poke_18 : decode prog_7_method_16_code 18 = .ok (.ireturn, 1) := by decide +kernel
theorem d_Mo_poke_19 : decode prog_7_method_16_code 19 = .ok (.aload_n 0, 1) := by decide +kernel
theorem d_Mo_poke_20 : decode prog_7_method_16_code 20 = .ok (.getfield 29, 3) := by decide +kernel
theorem d_Mo_poke_23 : decode prog_7_method_16_code 23 = .ok (.iload_n 1, 1) := by decide +kernel
theorem d_Mo_poke_24 : decode prog_7_method_16_code 24 = .ok (.iload_n 2, 1) := by decide +kernel
theorem d_Mo_poke_25 : decode prog_7_method_16_code 25 = .ok (.sipush 255, 3) := by decide +kernel
theorem d_Mo_poke_28 : decode prog_7_method_16_code 28 = .ok (.iand, 1) := by decide +kernel
theorem d_Mo_poke_29 : decode prog_7_method_16_code 29 = .ok (.iastore, 1) := by decide +kernel
theorem d_Mo_poke_30 : decode prog_7_method_16_code 30 = .ok (.iconst 1, 1) := by decide +kernel
theorem d_Mo_poke_31 : decode prog_7_method_16_code 31 = .ok (.ireturn, 1) := by decide +kernel
theorem d_Mo_wrong_0 : decode prog_7_method_17_code 0 = .ok (.aload_n 0, 1) := by decide +kernel
theorem d_Mo_wrong_1 : decode prog_7_method_17_code 1 = .ok (.getfield 90, 3) := by decide +kernel
theorem d_Mo_wrong_4 : decode prog_7_method_17_code 4 = .ok (.ifCond .ne 13, 3) := by decide +kernel
theorem d_Mo_wrong_7 : decode prog_7_method_17_code 7 = .ok (.aload_n 0, 1) := by decide +kernel
theorem d_Mo_wrong_8 : decode prog_7_method_17_code 8 = .ok (.iload_n 1, 1) := by decide +kernel
theorem d_Mo_wrong_9 : decode prog_7_method_17_code 9 = .ok (.putfield 90, 3) := by decide +kernel
theorem d_Mo_wrong_12 : decode prog_7_method_17_code 12 = .ok (.aload_n 0, 1) := by decide +kernel
theorem d_Mo_wrong_13 : decode prog_7_method_17_code 13 = .ok (.iload_n 2, 1) := by decide +kernel
theorem d_Mo_wrong_14 : decode prog_7_method_17_code 14 = .ok (.putfield 47, 3) := by decide +kernel
theorem d_Mo_wrong_17 : decode prog_7_method_17_code 17 = .ok (.return_, 1) := by decide +kernel
theorem d_Mo_next_0 : decode prog_7_method_18_code 0 = .ok (.aload_n 0, 1) := by decide +kernel
theorem d_Mo_next_1 : decode prog_7_method_18_code 1 = .ok (.getfield 90, 3) := by decide +kernel
theorem d_Mo_next_4 : decode prog_7_method_18_code 4 = .ok (.ifCond .ne 23, 3) := by decide +kernel
theorem d_Mo_next_7 : decode prog_7_method_18_code 7 = .ok (.aload_n 0, 1) := by decide +kernel
theorem d_Mo_next_8 : decode prog_7_method_18_code 8 = .ok (.getfield 93, 3) := by decide +kernel
theorem d_Mo_next_11 : decode prog_7_method_18_code 11 = .ok (.aload_n 0, 1) := by decide +kernel
theorem d_Mo_next_12 : decode prog_7_method_18_code 12 = .ok (.getfield 85, 3) := by decide +kernel
theorem d_Mo_next_15 : decode prog_7_method_18_code 15 = .ok (.if_icmp .ne 12, 3) := by decide +kernel
theorem d_Mo_next_18 : decode prog_7_method_18_code 18 = .ok (.aload_n 0, 1) := by decide +kernel
theorem d_Mo_next_19 : decode prog_7_method_18_code 19 = .ok (.iconst 1, 1) := by decide +kernel
theorem d_Mo_next_20 : decode prog_7_method_18_code 20 = .ok (.aload_n 0, 1) := by decide +kernel
theorem d_Mo_next_21 : decode prog_7_method_18_code 21 = .ok (.getfield 85, 3) := by decide +kernel
theorem d_Mo_next_24 : decode prog_7_method_18_code 24 = .ok (.invokevirtual 96, 3) := by decide +kernel
theorem d_Mo_next_27 : decode prog_7_method_18_code 27 = .ok (.aload_n 0, 1) := by decide +kernel
theorem d_Mo_next_28 : decode prog_7_method_18_code 28 = .ok (.getfield 90, 3) := by decide +kernel
theorem d_Mo_next_31 : decode prog_7_method_18_code 31 = .ok (.ifCond .le 5, 3) := by decide +kernel
theorem d_Mo_next_34 : decode prog_7_method_18_code 34 = .ok (.iconst 0, 1) := by decide +kernel
theorem d_Mo_next_35 : decode prog_7_method_18_code 35 = .ok (.ireturn, 1) := by decide +kernel
theorem d_Mo_next_36 : decode prog_7_method_18_code 36 = .ok (.aload_n 0, 1) := by decide +kernel
theorem d_Mo_next_37 : decode prog_7_method_18_code 37 = .ok (.getfield 29, 3) := by decide +kernel
theorem d_Mo_next_40 : decode prog_7_method_18_code 40 = .ok (.aload_n 0, 1) := by decide +kernel
theorem d_Mo_next_41 : decode prog_7_method_18_code 41 = .ok (.getfield 93, 3) := by decide +kernel
theorem d_Mo_next_44 : decode prog_7_method_18_code 44 = .ok (.iaload, 1) := by decide +kernel
theorem d_Mo_next_45 : decode prog_7_method_18_code 45 = .ok (.istore_n 1, 1) := by decide +kernel
theorem d_Mo_next_46 : decode prog_7_method_18_code 46 = .ok (.aload_n 0, 1) := by decide +kernel
theorem d_Mo_next_47 : decode prog_7_method_18_code 47 = .ok (.dup, 1) := by decide +kernel
theorem d_Mo_next_48 : decode prog_7_method_18_code 48 = .ok (.getfield 93, 3) := by decide +kernel
theorem d_Mo_next_51 : decode prog_7_method_18_code 51 = .ok (.iconst 1, 1) := by decide +kernel
theorem d_Mo_next_52 : decode prog_7_method_18_code 52 = .ok (.iadd, 1) := by decide +kernel
theorem d_Mo_next_53 : decode prog_7_method_18_code 53 = .ok (.putfield 93, 3) := by decide +kernel
theorem d_Mo_next_56 : decode prog_7_method_18_code 56 = .ok (.aload_n 0, 1) := by decide +kernel
theorem d_Mo_next_57 : decode prog_7_method_18_code 57 = .ok (.iload_n 1, 1) := by decide +kernel
theorem d_Mo_next_58 : decode prog_7_method_18_code 58 = .ok (.invokevirtual 79, 3) := by decide +kernel
theorem d_Mo_next_61 : decode prog_7_method_18_code 61 = .ok (.iload_n 1, 1) := by decide +kernel
theorem d_Mo_next_62 : decode prog_7_method_18_code 62 = .ok (.ireturn, 1) := by decide +kernel
theorem d_Mo_nextUpTo_0 : decode prog_7_method_19_code 0 = .ok (.aload_n 0, 1) := by decide +kernel
theorem d_Mo_nextUpTo_1 : decode prog_7_method_19_code 1 = .ok (.invokevirtual 100, 3) := by decide +kernel
theorem d_Mo_nextUpTo_4 : decode prog_7_method_19_code 4 = .ok (.istore_n 3, 1) := by decide +kernel
theorem d_Mo_nextUpTo_5 : decode prog_7_method_19_code 5 = .ok (.aload_n 0, 1) := by decide +kernel
theorem d_Mo_nextUpTo_6 : decode prog_7_method_19_code 6 = .ok (.getfield 90, 3) := by decide +kernel
theorem d_Mo_nextUpTo_9 : decode prog_7_method_19_code 9 = .ok (.ifCond .ne 19, 3) := by decide +kernel
theorem d_Mo_nextUpTo_12 : decode prog_7_method_19_code 12 = .ok (.iload_n 3, 1) := by decide +kernel
theorem d_Mo_nextUpTo_13 : decode prog_7_method_19_code 13 = .ok (.iload_n 1, 1) := by decide +kernel
theorem d_Mo_nextUpTo_14 : decode prog_7_method_19_code 14 = .ok (.if_icmp .le 14, 3) := by decide +kernel
theorem d_Mo_nextUpTo_17 : decode prog_7_method_19_code 17 = .ok (.aload_n 0, 1) := by decide +kernel
theorem d_Mo_nextUpTo_18 : decode prog_7_method_19_code 18 = .ok (.iconst 3, 1) := by decide +kernel
theorem d_Mo_nextUpTo_19 : decode prog_7_method_19_code 19 = .ok (.aload_n 0, 1) := by decide +kernel
theorem d_Mo_nextUpTo_20 : decode prog_7_method_19_code 20 = .ok (.getfield 93, 3) := by decide +kernel
theorem d_Mo_nextUpTo_23 : decode prog_7_method_19_code 23 = .ok (.iconst 1, 1) := by decide +kernel
theorem d_Mo_nextUpTo_24 : decode prog_7_method_19_code 24 = .ok (.isub, 1) := by decide +kernel
theorem d_Mo_nextUpTo_25 : decode prog_7_method_19_code 25 = .ok (.invokevirtual 96, 3) := by decide +kernel
theorem d_Mo_nextUpTo_28 : decode prog_7_method_19_code 28 = .ok (.iload_n 3, 1) := by decide +kernel
theorem d_Mo_nextUpTo_29 : decode prog_7_method_19_code 29 = .ok (.iload_n 2, 1) := by decide +kernel
theorem d_Mo_nextUpTo_30 : decode prog_7_method_19_code 30 = .ok (.isub, 1) := by decide +kernel
theorem d_Mo_nextUpTo_31 : decode prog_7_method_19_code 31 = .ok (.ireturn, 1) := by decide +kernel
theorem d_Mo_nextTwo_0 : decode prog_7_method_20_code 0 = .ok (.aload_n 0, 1) := by decide +kernel
theorem d_Mo_nextTwo_1 : decode prog_7_method_20_code 1 = .ok (.invokevirtual 100, 3) := by decide +kernel
theorem d_Mo_nextTwo_4 : decode prog_7_method_20_code 4 = .ok (.sipush 256, 3) := by decide +kernel
theorem d_Mo_nextTwo_7 : decode prog_7_method_20_code 7 = .ok (.imul, 1) := by decide +kernel
theorem d_Mo_nextTwo_8 : decode prog_7_method_20_code 8 = .ok (.istore_n 1, 1) := by decide +kernel
theorem d_Mo_nextTwo_9 : decode prog_7_method_20_code 9 = .ok (.iload_n 1, 1) := by decide +kernel
theorem d_Mo_nextTwo_10 : decode prog_7_method_20_code 10 = .ok (.aload_n 0, 1) := by decide +kernel
theorem d_Mo_nextTwo_11 : decode prog_7_method_20_code 11 = .ok (.invokevirtual 100, 3) := by decide +kernel
theorem d_Mo_nextTwo_14 : decode prog_7_method_20_code 14 = .ok (.iadd, 1) := by decide +kernel
theorem d_Mo_nextTwo_15 : decode prog_7_method_20_code 15 = .ok (.istore_n 1, 1) := by decide +kernel
theorem d_Mo_nextTwo_16 : decode prog_7_method_20_code 16 = .ok (.iload_n 1, 1) := by decide +kernel
theorem d_Mo_nextTwo_17 : decode prog_7_method_20_code 17 = .ok (.sipush 32767, 3) := by decide +kernel
theorem d_Mo_nextTwo_20 : decode prog_7_method_20_code 20 = .ok (.if_icmp .le 10, 3) := by decide +kernel
theorem d_Mo_nextTwo_23 : decode prog_7_method_20_code 23 = .ok (.iload_n 1, 1) := by decide +kernel
theorem d_Mo_nextTwo_24 : decode prog_7_method_20_code 24 = .ok (.ldc 104, 2) := by decide +kernel
theorem d_Mo_nextTwo_26 : decode prog_7_method_20_code 26 = .ok (.isub, 1) := by decide +kernel
theorem d_Mo_nextTwo_27 : decode prog_7_method_20_code 27 = .ok (.goto 4, 3) := by decide +kernel
theorem d_Mo_nextTwo_30 : decode prog_7_method_20_code 30 = .ok (.iload_n 1, 1) := by decide +kernel
theorem d_Mo_nextTwo_31 : decode prog_7_method_20_code 31 = .ok (.ireturn, 1) := by decide +kernel
theorem d_Mo_readGroup_0 : decode prog_7_method_21_code 0 = .ok (.aload_n 0, 1) := by decide +kernel
theorem d_Mo_readGroup_1 : decode prog_7_method_21_code 1 = .ok (.getfield 93, 3) := by decide +kernel
theorem d_Mo_readGroup_4 : decode prog_7_method_21_code 4 = .ok (.iconst 1, 1) := by decide +kernel
theorem d_Mo_readGroup_5 : decode prog_7_method_21_code 5 = .ok (.isub, 1) := by decide +kernel
theorem d_Mo_readGroup_6 : decode prog_7_method_21_code 6 = .ok (.istore_n 3, 1) := by decide +kernel
theorem d_Mo_readGroup_7 : decode prog_7_method_21_code 7 = .ok (.iload_n 1, 1) := by decide +kernel
theorem d_Mo_readGroup_8 : decode prog_7_method_21_code 8 = .ok (.bipush 64, 2) := by decide +kernel
theorem d_Mo_readGroup_10 : decode prog_7_method_21_code 10 = .ok (.irem, 1) := by decide +kernel
theorem d_Mo_readGroup_11 : decode prog_7_method_21_code 11 = .ok (.istore 4, 2) := by decide +kernel
theorem d_Mo_readGroup_13 : decode prog_7_method_21_code 13 = .ok (.iload 4, 2) := by decide +kernel
theorem d_Mo_readGroup_15 : decode prog_7_method_21_code 15 = .ok (.ifCond .ne 12, 3) := by decide +kernel
theorem d_Mo_readGroup_18 : decode prog_7_method_21_code 18 = .ok (.aload_n 0, 1) := by decide +kernel
theorem d_Mo_readGroup_19 : decode prog_7_method_21_code 19 = .ok (.iconst 3, 1) := by decide +kernel
theorem d_Mo_readGroup_20 : decode prog_7_method_21_code 20 = .ok (.iload_n 3, 1) := by decide +kernel
theorem d_Mo_readGroup_21 : decode prog_7_method_21_code 21 = .ok (.invokevirtual 96, 3) := by decide +kernel
theorem d_Mo_readGroup_24 : decode prog_7_method_21_code 24 = .ok (.goto 22, 3) := by decide +kernel
theorem d_Mo_readGroup_27 : decode prog_7_method_21_code 27 = .ok (.aload_n 0, 1) := by decide +kernel
theorem d_Mo_readGroup_28 : decode prog_7_method_21_code 28 = .ok (.getfield 105, 3) := by decide +kernel
theorem d_Mo_readGroup_31 : decode prog_7_method_21_code 31 = .ok (.iload 4, 2) := by decide +kernel
theorem d_Mo_readGroup_33 : decode prog_7_method_21_code 33 = .ok (.iadd, 1) := by decide +kernel
theorem d_Mo_readGroup_34 : decode prog_7_method_21_code 34 = .ok (.sipush 1024, 3) := by decide +kernel
theorem d_Mo_readGroup_37 : decode prog_7_method_21_code 37 = .ok (.if_icmp .le 9, 3) := by decide +kernel
theorem d_Mo_readGroup_40 : decode prog_7_method_21_code 40 = .ok (.aload_n 0, 1) := by decide +kernel
theorem d_Mo_readGroup_41 : decode prog_7_method_21_code 41 = .ok (.iconst 5, 1) := by decide +kernel
theorem d_Mo_readGroup_42 : decode prog_7_method_21_code 42 = .ok (.iload_n 3, 1) := by decide +kernel
theorem d_Mo_readGroup_43 : decode prog_7_method_21_code 43 = .ok (.invokevirtual 96, 3) := by decide +kernel
theorem d_Mo_readGroup_46 : decode prog_7_method_21_code 46 = .ok (.aload_n 0, 1) := by decide +kernel
theorem d_Mo_readGroup_47 : decode prog_7_method_21_code 47 = .ok (.sipush 128, 3) := by decide +kernel
theorem d_Mo_readGroup_50 : decode prog_7_method_21_code 50 = .ok (.bipush 64, 2) := by decide +kernel
theorem d_Mo_readGroup_52 : decode prog_7_method_21_code 52 = .ok (.invokevirtual 108, 3) := by decide +kernel
theorem d_Mo_readGroup_55 : decode prog_7_method_21_code 55 = .ok (.istore 5, 2) := by decide +kernel
theorem d_Mo_readGroup_57 : decode prog_7_method_21_code 57 = .ok (.iconst 0, 1) := by decide +kernel
theorem d_Mo_readGroup_58 : decode prog_7_method_21_code 58 = .ok (.istore 6, 2) := by decide +kernel
theorem d_Mo_readGroup_60 : decode prog_7_method_21_code 60 = .ok (.iconst 0, 1) := by decide +kernel
theorem d_Mo_readGroup_61 : decode prog_7_method_21_code 61 = .ok (.istore 7, 2) := by decide +kernel
theorem d_Mo_readGroup_63 : decode prog_7_method_21_code 63 = .ok (.iload_n 1, 1) := by decide +kernel
theorem d_Mo_readGroup_64 : decode prog_7_method_21_code 64 = .ok (.bipush 127, 2) := by decide +kernel
theorem d_Mo_readGroup_66 : decode prog_7_method_21_code 66 = .ok (.if_icmp .le 52, 3) := by decide +kernel
theorem d_Mo_readGroup_69 : decode prog_7_method_21_code 69 = .ok (.aload_n 0, 1) := by decide +kernel
theorem d_Mo_readGroup_70 : decode prog_7_method_21_code 70 = .ok (.sipush 128, 3) := by decide +kernel
theorem d_Mo_readGroup_73 : decode prog_7_method_21_code 73 = .ok (.bipush 64, 2) := by decide +kernel
theorem d_Mo_readGroup_75 : decode prog_7_method_21_code 75 = .ok (.invokevirtual 108, 3) := by decide +kernel
theorem d_Mo_readGroup_78 : decode prog_7_method_21_code 78 = .ok (.istore 6, 2) := by decide +kernel
theorem d_Mo_readGroup_80 : decode prog_7_method_21_code 80 = .ok (.aload_n 0, 1) := by decide +kernel
theorem d_Mo_readGroup_81 : decode prog_7_method_21_code 81 = .ok (.bipush 32, 2) := by decide +kernel
theorem d_Mo_readGroup_83 : decode prog_7_method_21_code 83 = .ok (.bipush 16, 2) := by decide +kernel
theorem d_Mo_readGroup_85 : decode prog_7_method_21_code 85 = .ok (.invokevirtual 108, 3) := by decide +kernel
theorem d_Mo_readGroup_88 : decode prog_7_method_21_code 88 = .ok (.istore 7, 2) := by decide +kernel
theorem d_Mo_readGroup_90 : decode prog_7_method_21_code 90 = .ok (.aload_n 0, 1) := by decide +kernel
theorem d_Mo_readGroup_91 : decode prog_7_method_21_code 91 = .ok (.getfield 90, 3) := by decide +kernel
