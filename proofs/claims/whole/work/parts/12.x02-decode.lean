theorem d_Mo_readGroup_94 : decode prog_7_method_21_code 94 = .ok (.ifCond .ne 24, 3) := by decide +kernel
theorem d_Mo_readGroup_97 : decode prog_7_method_21_code 97 = .ok (.iload 6, 2) := by decide +kernel
theorem d_Mo_readGroup_99 : decode prog_7_method_21_code 99 = .ok (.ifCond .ne 19, 3) := by decide +kernel
theorem d_Mo_readGroup_102 : decode prog_7_method_21_code 102 = .ok (.iload 7, 2) := by decide +kernel
theorem d_Mo_readGroup_104 : decode prog_7_method_21_code 104 = .ok (.ifCond .ne 14, 3) := by decide +kernel
theorem d_Mo_readGroup_107 : decode prog_7_method_21_code 107 = .ok (.aload_n 0, 1) := by decide +kernel
theorem d_Mo_readGroup_108 : decode prog_7_method_21_code 108 = .ok (.iconst 3, 1) := by decide +kernel
theorem d_Mo_readGroup_109 : decode prog_7_method_21_code 109 = .ok (.aload_n 0, 1) := by decide +kernel
theorem d_Mo_readGroup_110 : decode prog_7_method_21_code 110 = .ok (.getfield 93, 3) := by decide +kernel
theorem d_Mo_readGroup_113 : decode prog_7_method_21_code 113 = .ok (.iconst 1, 1) := by decide +kernel
theorem d_Mo_readGroup_114 : decode prog_7_method_21_code 114 = .ok (.isub, 1) := by decide +kernel
theorem d_Mo_readGroup_115 : decode prog_7_method_21_code 115 = .ok (.invokevirtual 96, 3) := by decide +kernel
theorem d_Mo_readGroup_118 : decode prog_7_method_21_code 118 = .ok (.iload_n 1, 1) := by decide +kernel
theorem d_Mo_readGroup_119 : decode prog_7_method_21_code 119 = .ok (.bipush 64, 2) := by decide +kernel
theorem d_Mo_readGroup_121 : decode prog_7_method_21_code 121 = .ok (.idiv, 1) := by decide +kernel
theorem d_Mo_readGroup_122 : decode prog_7_method_21_code 122 = .ok (.iconst 2, 1) := by decide +kernel
theorem d_Mo_readGroup_123 : decode prog_7_method_21_code 123 = .ok (.irem, 1) := by decide +kernel
theorem d_Mo_readGroup_124 : decode prog_7_method_21_code 124 = .ok (.iconst 1, 1) := by decide +kernel
theorem d_Mo_readGroup_125 : decode prog_7_method_21_code 125 = .ok (.if_icmp .ne 7, 3) := by decide +kernel
theorem d_Mo_readGroup_128 : decode prog_7_method_21_code 128 = .ok (.iconst 1, 1) := by decide +kernel
theorem d_Mo_readGroup_129 : decode prog_7_method_21_code 129 = .ok (.goto 4, 3) := by decide +kernel
theorem d_Mo_readGroup_132 : decode prog_7_method_21_code 132 = .ok (.iconst 0, 1) := by decide +kernel
theorem d_Mo_readGroup_133 : decode prog_7_method_21_code 133 = .ok (.istore 8, 2) := by decide +kernel
theorem d_Mo_readGroup_135 : decode prog_7_method_21_code 135 = .ok (.aload_n 0, 1) := by decide +kernel
theorem d_Mo_readGroup_136 : decode prog_7_method_21_code 136 = .ok (.getfield 105, 3) := by decide +kernel
theorem d_Mo_readGroup_139 : decode prog_7_method_21_code 139 = .ok (.iconst 1, 1) := by decide +kernel
theorem d_Mo_readGroup_140 : decode prog_7_method_21_code 140 = .ok (.isub, 1) := by decide +kernel
theorem d_Mo_readGroup_141 : decode prog_7_method_21_code 141 = .ok (.istore 9, 2) := by decide +kernel
theorem d_Mo_readGroup_143 : decode prog_7_method_21_code 143 = .ok (.aload_n 0, 1) := by decide +kernel
theorem d_Mo_readGroup_144 : decode prog_7_method_21_code 144 = .ok (.getfield 90, 3) := by decide +kernel
theorem d_Mo_readGroup_147 : decode prog_7_method_21_code 147 = .ok (.ifCond .ne 65, 3) := by decide +kernel
theorem d_Mo_readGroup_150 : decode prog_7_method_21_code 150 = .ok (.iload_n 2, 1) := by decide +kernel
theorem d_Mo_readGroup_151 : decode prog_7_method_21_code 151 = .ok (.ifCond .le 61, 3) := by decide +kernel
theorem d_Mo_readGroup_154 : decode prog_7_method_21_code 154 = .ok (.iload_n 2, 1) := by decide +kernel
theorem d_Mo_readGroup_155 : decode prog_7_method_21_code 155 = .ok (.bipush 63, 2) := by decide +kernel
theorem d_Mo_readGroup_157 : decode prog_7_method_21_code 157 = .ok (.if_icmp .ge 55, 3) := by decide +kernel
theorem d_Mo_readGroup_160 : decode prog_7_method_21_code 160 = .ok (.aload_n 0, 1) := by decide +kernel
theorem d_Mo_readGroup_161 : decode prog_7_method_21_code 161 = .ok (.getfield 35, 3) := by decide +kernel
theorem d_Mo_readGroup_164 : decode prog_7_method_21_code 164 = .ok (.iload 9, 2) := by decide +kernel
theorem d_Mo_readGroup_166 : decode prog_7_method_21_code 166 = .ok (.iaload, 1) := by decide +kernel
theorem d_Mo_readGroup_167 : decode prog_7_method_21_code 167 = .ok (.iload 5, 2) := by decide +kernel
theorem d_Mo_readGroup_169 : decode prog_7_method_21_code 169 = .ok (.if_icmp .ne 43, 3) := by decide +kernel
theorem d_Mo_readGroup_172 : decode prog_7_method_21_code 172 = .ok (.aload_n 0, 1) := by decide +kernel
theorem d_Mo_readGroup_173 : decode prog_7_method_21_code 173 = .ok (.getfield 38, 3) := by decide +kernel
theorem d_Mo_readGroup_176 : decode prog_7_method_21_code 176 = .ok (.iload 9, 2) := by decide +kernel
theorem d_Mo_readGroup_178 : decode prog_7_method_21_code 178 = .ok (.iaload, 1) := by decide +kernel
theorem d_Mo_readGroup_179 : decode prog_7_method_21_code 179 = .ok (.iload 6, 2) := by decide +kernel
theorem d_Mo_readGroup_181 : decode prog_7_method_21_code 181 = .ok (.if_icmp .ne 31, 3) := by decide +kernel
theorem d_Mo_readGroup_184 : decode prog_7_method_21_code 184 = .ok (.aload_n 0, 1) := by decide +kernel
theorem d_Mo_readGroup_185 : decode prog_7_method_21_code 185 = .ok (.getfield 41, 3) := by decide +kernel
theorem d_Mo_readGroup_188 : decode prog_7_method_21_code 188 = .ok (.iload 9, 2) := by decide +kernel
theorem d_Mo_readGroup_190 : decode prog_7_method_21_code 190 = .ok (.iaload, 1) := by decide +kernel
theorem d_Mo_readGroup_191 : decode prog_7_method_21_code 191 = .ok (.iload 7, 2) := by decide +kernel
theorem d_Mo_readGroup_193 : decode prog_7_method_21_code 193 = .ok (.if_icmp .ne 19, 3) := by decide +kernel
theorem d_Mo_readGroup_196 : decode prog_7_method_21_code 196 = .ok (.aload_n 0, 1) := by decide +kernel
theorem d_Mo_readGroup_197 : decode prog_7_method_21_code 197 = .ok (.getfield 44, 3) := by decide +kernel
theorem d_Mo_readGroup_200 : decode prog_7_method_21_code 200 = .ok (.iload 9, 2) := by decide +kernel
theorem d_Mo_readGroup_202 : decode prog_7_method_21_code 202 = .ok (.baload, 1) := by decide +kernel
theorem d_Mo_readGroup_203 : decode prog_7_method_21_code 203 = .ok (.iload 8, 2) := by decide +kernel
theorem d_Mo_readGroup_205 : decode prog_7_method_21_code 205 = .ok (.if_icmp .ne 7, 3) := by decide +kernel
theorem d_Mo_readGroup_208 : decode prog_7_method_21_code 208 = .ok (.iconst 1, 1) := by decide +kernel
theorem d_Mo_readGroup_209 : decode prog_7_method_21_code 209 = .ok (.goto 4, 3) := by decide +kernel
theorem d_Mo_readGroup_212 : decode prog_7_method_21_code 212 = .ok (.iconst 0, 1) := by decide +kernel
theorem d_Mo_readGroup_213 : decode prog_7_method_21_code 213 = .ok (.istore 10, 2) := by decide +kernel
theorem d_Mo_readGroup_215 : decode prog_7_method_21_code 215 = .ok (.iload 10, 2) := by decide +kernel
theorem d_Mo_readGroup_217 : decode prog_7_method_21_code 217 = .ok (.ifCond .eq 9, 3) := by decide +kernel
theorem d_Mo_readGroup_220 : decode prog_7_method_21_code 220 = .ok (.aload_n 0, 1) := by decide +kernel
theorem d_Mo_readGroup_221 : decode prog_7_method_21_code 221 = .ok (.iconst 4, 1) := by decide +kernel
theorem d_Mo_readGroup_222 : decode prog_7_method_21_code 222 = .ok (.iload_n 3, 1) := by decide +kernel
theorem d_Mo_readGroup_223 : decode prog_7_method_21_code 223 = .ok (.invokevirtual 96, 3) := by decide +kernel
theorem d_Mo_readGroup_226 : decode prog_7_method_21_code 226 = .ok (.iconst 0, 1) := by decide +kernel
theorem d_Mo_readGroup_227 : decode prog_7_method_21_code 227 = .ok (.istore 11, 2) := by decide +kernel
theorem d_Mo_readGroup_229 : decode prog_7_method_21_code 229 = .ok (.iload 11, 2) := by decide +kernel
theorem d_Mo_readGroup_231 : decode prog_7_method_21_code 231 = .ok (.iload 4, 2) := by decide +kernel
theorem d_Mo_readGroup_233 : decode prog_7_method_21_code 233 = .ok (.if_icmp .ge 70, 3) := by decide +kernel
theorem d_Mo_readGroup_236 : decode prog_7_method_21_code 236 = .ok (.aload_n 0, 1) := by decide +kernel
theorem d_Mo_readGroup_237 : decode prog_7_method_21_code 237 = .ok (.getfield 90, 3) := by decide +kernel
theorem d_Mo_readGroup_240 : decode prog_7_method_21_code 240 = .ok (.ifCond .ne 63, 3) := by decide +kernel
theorem d_Mo_readGroup_243 : decode prog_7_method_21_code 243 = .ok (.aload_n 0, 1) := by decide +kernel
theorem d_Mo_readGroup_244 : decode prog_7_method_21_code 244 = .ok (.getfield 35, 3) := by decide +kernel
theorem d_Mo_readGroup_247 : decode prog_7_method_21_code 247 = .ok (.aload_n 0, 1) := by decide +kernel
theorem d_Mo_readGroup_248 : decode prog_7_method_21_code 248 = .ok (.getfield 105, 3) := by decide +kernel
theorem d_Mo_readGroup_251 : decode prog_7_method_21_code 251 = .ok (.iload 5, 2) := by decide +kernel
theorem d_Mo_readGroup_253 : decode prog_7_method_21_code 253 = .ok (.iastore, 1) := by decide +kernel
theorem d_Mo_readGroup_254 : decode prog_7_method_21_code 254 = .ok (.aload_n 0, 1) := by decide +kernel
theorem d_Mo_readGroup_255 : decode prog_7_method_21_code 255 = .ok (.getfield 38, 3) := by decide +kernel
theorem d_Mo_readGroup_258 : decode prog_7_method_21_code 258 = .ok (.aload_n 0, 1) := by decide +kernel
theorem d_Mo_readGroup_259 : decode prog_7_method_21_code 259 = .ok (.getfield 105, 3) := by decide +kernel
theorem d_Mo_readGroup_262 : decode prog_7_method_21_code 262 = .ok (.iload 6, 2) := by decide +kernel
theorem d_Mo_readGroup_264 : decode prog_7_method_21_code 264 = .ok (.iastore, 1) := by decide +kernel
theorem d_Mo_readGroup_265 : decode prog_7_method_21_code 265 = .ok (.aload_n 0, 1) := by decide +kernel
theorem d_Mo_readGroup_266 : decode prog_7_method_21_code 266 = .ok (.getfield 41, 3) := by decide +kernel
theorem d_Mo_readGroup_269 : decode prog_7_method_21_code 269 = .ok (.aload_n 0, 1) := by decide +kernel
theorem d_Mo_readGroup_270 : decode prog_7_method_21_code 270 = .ok (.getfield 105, 3) := by decide +kernel
theorem d_Mo_readGroup_273 : decode prog_7_method_21_code 273 = .ok (.iload 7, 2) := by decide +kernel
theorem d_Mo_readGroup_275 : decode prog_7_method_21_code 275 = .ok (.iastore, 1) := by decide +kernel
theorem d_Mo_readGroup_276 : decode prog_7_method_21_code 276 = .ok (.aload_n 0, 1) := by decide +kernel
theorem d_Mo_readGroup_277 : decode prog_7_method_21_code 277 = .ok (.getfield 44, 3) := by decide +kernel
theorem d_Mo_readGroup_280 : decode prog_7_method_21_code 280 = .ok (.aload_n 0, 1) := by decide +kernel
theorem d_Mo_readGroup_281 : decode prog_7_method_21_code 281 = .ok (.getfield 105, 3) := by decide +kernel
theorem d_Mo_readGroup_284 : decode prog_7_method_21_code 284 = .ok (.iload 8, 2) := by decide +kernel
theorem d_Mo_readGroup_286 : decode prog_7_method_21_code 286 = .ok (.bastore, 1) := by decide +kernel
theorem d_Mo_readGroup_287 : decode prog_7_method_21_code 287 = .ok (.aload_n 0, 1) := by decide +kernel
theorem d_Mo_readGroup_288 : decode prog_7_method_21_code 288 = .ok (.dup, 1) := by decide +kernel
theorem d_Mo_readGroup_289 : decode prog_7_method_21_code 289 = .ok (.getfield 105, 3) := by decide +kernel
theorem d_Mo_readGroup_292 : decode prog_7_method_21_code 292 = .ok (.iconst 1, 1) := by decide +kernel
theorem d_Mo_readGroup_293 : decode prog_7_method_21_code 293 = .ok (.iadd, 1) := by decide +kernel
theorem d_Mo_readGroup_294 : decode prog_7_method_21_code 294 = .ok (.putfield 105, 3) := by decide +kernel
theorem d_Mo_readGroup_297 : decode prog_7_method_21_code 297 = .ok (.iinc 11 1, 3) := by decide +kernel
theorem d_Mo_readGroup_300 : decode prog_7_method_21_code 300 = .ok (.goto (-71), 3) := by decide +kernel
theorem d_Mo_readGroup_303 : decode prog_7_method_21_code 303 = .ok (.return_, 1) := by decide +kernel
theorem d_Mo_readAll_0 : decode prog_7_method_22_code 0 = .ok (.iconst 0, 1) := by decide +kernel
theorem d_Mo_readAll_1 : decode prog_7_method_22_code 1 = .ok (.istore_n 1, 1) := by decide +kernel
theorem d_Mo_readAll_2 : decode prog_7_method_22_code 2 = .ok (.iload_n 1, 1) := by decide +kernel
theorem d_Mo_readAll_3 : decode prog_7_method_22_code 3 = .ok (.iconst 3, 1) := by decide +kernel
theorem d_Mo_readAll_4 : decode prog_7_method_22_code 4 = .ok (.if_icmp .ge 51, 3) := by decide +kernel
theorem d_Mo_readAll_7 : decode prog_7_method_22_code 7 = .ok (.aload_n 0, 1) := by decide +kernel
theorem d_Mo_readAll_8 : decode prog_7_method_22_code 8 = .ok (.invokevirtual 100, 3) := by decide +kernel
theorem d_Mo_readAll_11 : decode prog_7_method_22_code 11 = .ok (.istore_n 2, 1) := by decide +kernel
theorem d_Mo_readAll_12 : decode prog_7_method_22_code 12 = .ok (.aload_n 0, 1) := by decide +kernel
theorem d_Mo_readAll_13 : decode prog_7_method_22_code 13 = .ok (.getfield 90, 3) := by decide +kernel
theorem d_Mo_readAll_16 : decode prog_7_method_22_code 16 = .ok (.ifCond .ne 33, 3) := by decide +kernel
theorem d_Mo_readAll_19 : decode prog_7_method_22_code 19 = .ok (.iload_n 2, 1) := by decide +kernel
theorem d_Mo_readAll_20 : decode prog_7_method_22_code 20 = .ok (.iload_n 1, 1) := by decide +kernel
theorem d_Mo_readAll_21 : decode prog_7_method_22_code 21 = .ok (.ifCond .ne 8, 3) := by decide +kernel
theorem d_Mo_readAll_24 : decode prog_7_method_22_code 24 = .ok (.bipush 77, 2) := by decide +kernel
theorem d_Mo_readAll_26 : decode prog_7_method_22_code 26 = .ok (.goto 14, 3) := by decide +kernel
theorem d_Mo_readAll_29 : decode prog_7_method_22_code 29 = .ok (.iload_n 1, 1) := by decide +kernel
theorem d_Mo_readAll_30 : decode prog_7_method_22_code 30 = .ok (.iconst 1, 1) := by decide +kernel
theorem d_Mo_readAll_31 : decode prog_7_method_22_code 31 = .ok (.if_icmp .ne 8, 3) := by decide +kernel
theorem d_Mo_readAll_34 : decode prog_7_method_22_code 34 = .ok (.bipush 68, 2) := by decide +kernel
theorem d_Mo_readAll_36 : decode prog_7_method_22_code 36 = .ok (.goto 4, 3) := by decide +kernel
theorem d_Mo_readAll_39 : decode prog_7_method_22_code 39 = .ok (.iconst 1, 1) := by decide +kernel
theorem d_Mo_readAll_40 : decode prog_7_method_22_code 40 = .ok (.if_icmp .eq 9, 3) := by decide +kernel
theorem d_Mo_readAll_43 : decode prog_7_method_22_code 43 = .ok (.aload_n 0, 1) := by decide +kernel
theorem d_Mo_readAll_44 : decode prog_7_method_22_code 44 = .ok (.iconst 2, 1) := by decide +kernel
theorem d_Mo_readAll_45 : decode prog_7_method_22_code 45 = .ok (.iload_n 1, 1) := by decide +kernel
theorem d_Mo_readAll_46 : decode prog_7_method_22_code 46 = .ok (.invokevirtual 96, 3) := by decide +kernel
theorem d_Mo_readAll_49 : decode prog_7_method_22_code 49 = .ok (.iinc 1 1, 3) := by decide +kernel
theorem d_Mo_readAll_52 : decode prog_7_method_22_code 52 = .ok (.goto (-50), 3) := by decide +kernel
theorem d_Mo_readAll_55 : decode prog_7_method_22_code 55 = .ok (.aload_n 0, 1) := by decide +kernel
theorem d_Mo_readAll_56 : decode prog_7_method_22_code 56 = .ok (.getfield 32, 3) := by decide +kernel
theorem d_Mo_readAll_59 : decode prog_7_method_22_code 59 = .ok (.iconst 0, 1) := by decide +kernel
theorem d_Mo_readAll_60 : decode prog_7_method_22_code 60 = .ok (.aload_n 0, 1) := by decide +kernel
theorem d_Mo_readAll_61 : decode prog_7_method_22_code 61 = .ok (.invokevirtual 112, 3) := by decide +kernel
theorem d_Mo_readAll_64 : decode prog_7_method_22_code 64 = .ok (.iastore, 1) := by decide +kernel
theorem d_Mo_readAll_65 : decode prog_7_method_22_code 65 = .ok (.aload_n 0, 1) := by decide +kernel
theorem d_Mo_readAll_66 : decode prog_7_method_22_code 66 = .ok (.getfield 32, 3) := by decide +kernel
theorem d_Mo_readAll_69 : decode prog_7_method_22_code 69 = .ok (.iconst 1, 1) := by decide +kernel
theorem d_Mo_readAll_70 : decode prog_7_method_22_code 70 = .ok (.aload_n 0, 1) := by decide +kernel
theorem d_Mo_readAll_71 : decode prog_7_method_22_code 71 = .ok (.invokevirtual 112, 3) := by decide +kernel
theorem d_Mo_readAll_74 : decode prog_7_method_22_code 74 = .ok (.iastore, 1) := by decide +kernel
theorem d_Mo_readAll_75 : decode prog_7_method_22_code 75 = .ok (.aload_n 0, 1) := by decide +kernel
theorem d_Mo_readAll_76 : decode prog_7_method_22_code 76 = .ok (.getfield 32, 3) := by decide +kernel
theorem d_Mo_readAll_79 : decode prog_7_method_22_code 79 = .ok (.iconst 2, 1) := by decide +kernel
theorem d_Mo_readAll_80 : decode prog_7_method_22_code 80 = .ok (.aload_n 0, 1) := by decide +kernel
theorem d_Mo_readAll_81 : decode prog_7_method_22_code 81 = .ok (.bipush 63, 2) := by decide +kernel
theorem d_Mo_readAll_83 : decode prog_7_method_22_code 83 = .ok (.iconst 0, 1) := by decide +kernel
theorem d_Mo_readAll_84 : decode prog_7_method_22_code 84 = .ok (.invokevirtual 108, 3) := by decide +kernel
theorem d_Mo_readAll_87 : decode prog_7_method_22_code 87 = .ok (.iastore, 1) := by decide +kernel
theorem d_Mo_readAll_88 : decode prog_7_method_22_code 88 = .ok (.aload_n 0, 1) := by decide +kernel
theorem d_Mo_readAll_89 : decode prog_7_method_22_code 89 = .ok (.getfield 32, 3) := by decide +kernel
theorem d_Mo_readAll_92 : decode prog_7_method_22_code 92 = .ok (.iconst 3, 1) := by decide +kernel
theorem d_Mo_readAll_93 : decode prog_7_method_22_code 93 = .ok (.aload_n 0, 1) := by decide +kernel
theorem d_Mo_readAll_94 : decode prog_7_method_22_code 94 = .ok (.invokevirtual 100, 3) := by decide +kernel
theorem d_Mo_readAll_97 : decode prog_7_method_22_code 97 = .ok (.iastore, 1) := by decide +kernel
theorem d_Mo_readAll_98 : decode prog_7_method_22_code 98 = .ok (.aload_n 0, 1) := by decide +kernel
theorem d_Mo_readAll_99 : decode prog_7_method_22_code 99 = .ok (.iconst 0, 1) := by decide +kernel
theorem d_Mo_readAll_100 : decode prog_7_method_22_code 100 = .ok (.putfield 105, 3) := by decide +kernel
theorem d_Mo_readAll_103 : decode prog_7_method_22_code 103 = .ok (.iconst 0, 1) := by decide +kernel
theorem d_Mo_readAll_104 : decode prog_7_method_22_code 104 = .ok (.istore_n 1, 1) := by decide +kernel
theorem d_Mo_readAll_105 : decode prog_7_method_22_code 105 = .ok (.aload_n 0, 1) := by decide +kernel
theorem d_Mo_readAll_106 : decode prog_7_method_22_code 106 = .ok (.invokevirtual 100, 3) := by decide +kernel
theorem d_Mo_readAll_109 : decode prog_7_method_22_code 109 = .ok (.istore_n 2, 1) := by decide +kernel
theorem d_Mo_readAll_110 : decode prog_7_method_22_code 110 = .ok (.iload_n 2, 1) := by decide +kernel
theorem d_Mo_readAll_111 : decode prog_7_method_22_code 111 = .ok (.ifCond .le 29, 3) := by decide +kernel
theorem d_Mo_readAll_114 : decode prog_7_method_22_code 114 = .ok (.aload_n 0, 1) := by decide +kernel
theorem d_Mo_readAll_115 : decode prog_7_method_22_code 115 = .ok (.getfield 90, 3) := by decide +kernel
theorem d_Mo_readAll_118 : decode prog_7_method_22_code 118 = .ok (.ifCond .ne 22, 3) := by decide +kernel
theorem d_Mo_readAll_121 : decode prog_7_method_22_code 121 = .ok (.aload_n 0, 1) := by decide +kernel
theorem d_Mo_readAll_122 : decode prog_7_method_22_code 122 = .ok (.iload_n 2, 1) := by decide +kernel
theorem d_Mo_readAll_123 : decode prog_7_method_22_code 123 = .ok (.iload_n 1, 1) := by decide +kernel
theorem d_Mo_readAll_124 : decode prog_7_method_22_code 124 = .ok (.invokevirtual 115, 3) := by decide +kernel
theorem d_Mo_readAll_127 : decode prog_7_method_22_code 127 = .ok (.iload_n 2, 1) := by decide +kernel
theorem d_Mo_readAll_128 : decode prog_7_method_22_code 128 = .ok (.bipush 64, 2) := by decide +kernel
theorem d_Mo_readAll_130 : decode prog_7_method_22_code 130 = .ok (.irem, 1) := by decide +kernel
theorem d_Mo_readAll_131 : decode prog_7_method_22_code 131 = .ok (.istore_n 1, 1) := by decide +kernel
theorem d_Mo_readAll_132 : decode prog_7_method_22_code 132 = .ok (.aload_n 0, 1) := by decide +kernel
theorem d_Mo_readAll_133 : decode prog_7_method_22_code 133 = .ok (.invokevirtual 100, 3) := by decide +kernel
theorem d_Mo_readAll_136 : decode prog_7_method_22_code 136 = .ok (.istore_n 2, 1) := by decide +kernel
theorem d_Mo_readAll_137 : decode prog_7_method_22_code 137 = .ok (.goto (-27), 3) := by decide +kernel
theorem d_Mo_readAll_140 : decode prog_7_method_22_code 140 = .ok (.aload_n 0, 1) := by decide +kernel
theorem d_Mo_readAll_141 : decode prog_7_method_22_code 141 = .ok (.getfield 64, 3) := by decide +kernel
theorem d_Mo_readAll_144 : decode prog_7_method_22_code 144 = .ok (.istore_n 3, 1) := by decide +kernel
theorem d_Mo_readAll_145 : decode prog_7_method_22_code 145 = .ok (.aload_n 0, 1) := by decide +kernel
theorem d_Mo_readAll_146 : decode prog_7_method_22_code 146 = .ok (.getfield 68, 3) := by decide +kernel
theorem d_Mo_readAll_149 : decode prog_7_method_22_code 149 = .ok (.istore 4, 2) := by decide +kernel
theorem d_Mo_readAll_151 : decode prog_7_method_22_code 151 = .ok (.iconst 0, 1) := by decide +kernel
theorem d_Mo_readAll_152 : decode prog_7_method_22_code 152 = .ok (.istore 5, 2) := by decide +kernel
theorem d_Mo_readAll_154 : decode prog_7_method_22_code 154 = .ok (.iload 5, 2) := by decide +kernel
theorem d_Mo_readAll_156 : decode prog_7_method_22_code 156 = .ok (.iconst 4, 1) := by decide +kernel
theorem d_Mo_readAll_157 : decode prog_7_method_22_code 157 = .ok (.if_icmp .ge 79, 3) := by decide +kernel
theorem d_Mo_readAll_160 : decode prog_7_method_22_code 160 = .ok (.iload 5, 2) := by decide +kernel
theorem d_Mo_readAll_162 : decode prog_7_method_22_code 162 = .ok (.iconst 2, 1) := by decide +kernel
theorem d_Mo_readAll_163 : decode prog_7_method_22_code 163 = .ok (.if_icmp .ge 8, 3) := by decide +kernel
theorem d_Mo_readAll_166 : decode prog_7_method_22_code 166 = .ok (.iload 4, 2) := by decide +kernel
theorem d_Mo_readAll_168 : decode prog_7_method_22_code 168 = .ok (.goto 4, 3) := by decide +kernel
theorem d_Mo_readAll_171 : decode prog_7_method_22_code 171 = .ok (.iload_n 3, 1) := by decide +kernel
theorem d_Mo_readAll_172 : decode prog_7_method_22_code 172 = .ok (.istore 6, 2) := by decide +kernel
theorem d_Mo_readAll_174 : decode prog_7_method_22_code 174 = .ok (.iload 5, 2) := by decide +kernel
theorem d_Mo_readAll_176 : decode prog_7_method_22_code 176 = .ok (.iconst 2, 1) := by decide +kernel
theorem d_Mo_readAll_177 : decode prog_7_method_22_code 177 = .ok (.irem, 1) := by decide +kernel
theorem d_Mo_readAll_178 : decode prog_7_method_22_code 178 = .ok (.ifCond .ne 12, 3) := by decide +kernel
theorem d_Mo_readAll_181 : decode prog_7_method_22_code 181 = .ok (.iload 6, 2) := by decide +kernel
theorem d_Mo_readAll_183 : decode prog_7_method_22_code 183 = .ok (.sipush 256, 3) := by decide +kernel
theorem d_Mo_readAll_186 : decode prog_7_method_22_code 186 = .ok (.idiv, 1) := by decide +kernel
theorem d_Mo_readAll_187 : decode prog_7_method_22_code 187 = .ok (.goto 9, 3) := by decide +kernel
theorem d_Mo_readAll_190 : decode prog_7_method_22_code 190 = .ok (.iload 6, 2) := by decide +kernel
theorem d_Mo_readAll_192 : decode prog_7_method_22_code 192 = .ok (.sipush 256, 3) := by decide +kernel
theorem d_Mo_readAll_195 : decode prog_7_method_22_code 195 = .ok (.irem, 1) := by decide +kernel
theorem d_Mo_readAll_196 : decode prog_7_method_22_code 196 = .ok (.istore 7, 2) := by decide +kernel
theorem d_Mo_readAll_198 : decode prog_7_method_22_code 198 = .ok (.aload_n 0, 1) := by decide +kernel
theorem d_Mo_readAll_199 : decode prog_7_method_22_code 199 = .ok (.invokevirtual 100, 3) := by decide +kernel
theorem d_Mo_readAll_202 : decode prog_7_method_22_code 202 = .ok (.istore 8, 2) := by decide +kernel
theorem d_Mo_readAll_204 : decode prog_7_method_22_code 204 = .ok (.aload_n 0, 1) := by decide +kernel
theorem d_Mo_readAll_205 : decode prog_7_method_22_code 205 = .ok (.getfield 90, 3) := by decide +kernel
theorem d_Mo_readAll_208 : decode prog_7_method_22_code 208 = .ok (.ifCond .ne 22, 3) := by decide +kernel
theorem d_Mo_readAll_211 : decode prog_7_method_22_code 211 = .ok (.iload 8, 2) := by decide +kernel
theorem d_Mo_readAll_213 : decode prog_7_method_22_code 213 = .ok (.iload 7, 2) := by decide +kernel
theorem d_Mo_readAll_215 : decode prog_7_method_22_code 215 = .ok (.if_icmp .eq 15, 3) := by decide +kernel
theorem d_Mo_readAll_218 : decode prog_7_method_22_code 218 = .ok (.aload_n 0, 1) := by decide +kernel
theorem d_Mo_readAll_219 : decode prog_7_method_22_code 219 = .ok (.bipush 6, 2) := by decide +kernel
theorem d_Mo_readAll_221 : decode prog_7_method_22_code 221 = .ok (.aload_n 0, 1) := by decide +kernel
theorem d_Mo_readAll_222 : decode prog_7_method_22_code 222 = .ok (.getfield 93, 3) := by decide +kernel
theorem d_Mo_readAll_225 : decode prog_7_method_22_code 225 = .ok (.iconst 1, 1) := by decide +kernel
theorem d_Mo_readAll_226 : decode prog_7_method_22_code 226 = .ok (.isub, 1) := by decide +kernel
theorem d_Mo_readAll_227 : decode prog_7_method_22_code 227 = .ok (.invokevirtual 96, 3) := by decide +kernel
theorem d_Mo_readAll_230 : decode prog_7_method_22_code 230 = .ok (.iinc 5 1, 3) := by decide +kernel
theorem d_Mo_readAll_233 : decode prog_7_method_22_code 233 = .ok (.goto (-79), 3) := by decide +kernel
theorem d_Mo_readAll_236 : decode prog_7_method_22_code 236 = .ok (.aload_n 0, 1) := by decide +kernel
theorem d_Mo_readAll_237 : decode prog_7_method_22_code 237 = .ok (.getfield 90, 3) := by decide +kernel
theorem d_Mo_readAll_240 : decode prog_7_method_22_code 240 = .ok (.ifCond .ne 24, 3) := by decide +kernel
theorem d_Mo_readAll_243 : decode prog_7_method_22_code 243 = .ok (.aload_n 0, 1) := by decide +kernel
theorem d_Mo_readAll_244 : decode prog_7_method_22_code 244 = .ok (.getfield 93, 3) := by decide +kernel
theorem d_Mo_readAll_247 : decode prog_7_method_22_code 247 = .ok (.aload_n 0, 1) := by decide +kernel
theorem d_Mo_readAll_248 : decode prog_7_method_22_code 248 = .ok (.getfield 85, 3) := by decide +kernel
theorem d_Mo_readAll_251 : decode prog_7_method_22_code 251 = .ok (.if_icmp .ge 13, 3) := by decide +kernel
theorem d_Mo_readAll_254 : decode prog_7_method_22_code 254 = .ok (.aload_n 0, 1) := by decide +kernel
theorem d_Mo_readAll_255 : decode prog_7_method_22_code 255 = .ok (.bipush 7, 2) := by decide +kernel
theorem d_Mo_readAll_257 : decode prog_7_method_22_code 257 = .ok (.aload_n 0, 1) := by decide +kernel
theorem d_Mo_readAll_258 : decode prog_7_method_22_code 258 = .ok (.getfield 93, 3) := by decide +kernel
theorem d_Mo_readAll_261 : decode prog_7_method_22_code 261 = .ok (.invokevirtual 96, 3) := by decide +kernel
theorem d_Mo_readAll_264 : decode prog_7_method_22_code 264 = .ok (.return_, 1) := by decide +kernel
theorem d_Mo_read_0 : decode prog_7_method_23_code 0 = .ok (.aload_n 0, 1) := by decide +kernel
theorem d_Mo_read_1 : decode prog_7_method_23_code 1 = .ok (.iconst 0, 1) := by decide +kernel
theorem d_Mo_read_2 : decode prog_7_method_23_code 2 = .ok (.putfield 51, 3) := by decide +kernel
theorem d_Mo_read_5 : decode prog_7_method_23_code 5 = .ok (.aload_n 0, 1) := by decide +kernel
theorem d_Mo_read_6 : decode prog_7_method_23_code 6 = .ok (.iconst 0, 1) := by decide +kernel
theorem d_Mo_read_7 : decode prog_7_method_23_code 7 = .ok (.putfield 93, 3) := by decide +kernel
theorem d_Mo_read_10 : decode prog_7_method_23_code 10 = .ok (.aload_n 0, 1) := by decide +kernel
theorem d_Mo_read_11 : decode prog_7_method_23_code 11 = .ok (.iconst 0, 1) := by decide +kernel
theorem d_Mo_read_12 : decode prog_7_method_23_code 12 = .ok (.putfield 90, 3) := by decide +kernel
theorem d_Mo_read_15 : decode prog_7_method_23_code 15 = .ok (.aload_n 0, 1) := by decide +kernel
theorem d_Mo_read_16 : decode prog_7_method_23_code 16 = .ok (.iconst (-1), 1) := by decide +kernel
theorem d_Mo_read_17 : decode prog_7_method_23_code 17 = .ok (.putfield 47, 3) := by decide +kernel
theorem d_Mo_read_20 : decode prog_7_method_23_code 20 = .ok (.aload_n 0, 1) := by decide +kernel
theorem d_Mo_read_21 : decode prog_7_method_23_code 21 = .ok (.iconst 1, 1) := by decide +kernel
theorem d_Mo_read_22 : decode prog_7_method_23_code 22 = .ok (.putfield 64, 3) := by decide +kernel
theorem d_Mo_read_25 : decode prog_7_method_23_code 25 = .ok (.aload_n 0, 1) := by decide +kernel
theorem d_Mo_read_26 : decode prog_7_method_23_code 26 = .ok (.iconst 0, 1) := by decide +kernel
theorem d_Mo_read_27 : decode prog_7_method_23_code 27 = .ok (.putfield 68, 3) := by decide +kernel
theorem d_Mo_read_30 : decode prog_7_method_23_code 30 = .ok (.aload_n 0, 1) := by decide +kernel
theorem d_Mo_read_31 : decode prog_7_method_23_code 31 = .ok (.invokevirtual 118, 3) := by decide +kernel
theorem d_Mo_read_34 : decode prog_7_method_23_code 34 = .ok (.aload_n 0, 1) := by decide +kernel
theorem d_Mo_read_35 : decode prog_7_method_23_code 35 = .ok (.getfield 90, 3) := by decide +kernel
theorem d_Mo_read_38 : decode prog_7_method_23_code 38 = .ok (.ifCond .le 8, 3) := by decide +kernel
theorem d_Mo_read_41 : decode prog_7_method_23_code 41 = .ok (.aload_n 0, 1) := by decide +kernel
theorem d_Mo_read_42 : decode prog_7_method_23_code 42 = .ok (.getfield 90, 3) := by decide +kernel
theorem d_Mo_read_45 : decode prog_7_method_23_code 45 = .ok (.ireturn, 1) := by decide +kernel
theorem d_Mo_read_46 : decode prog_7_method_23_code 46 = .ok (.iconst 0, 1) := by decide +kernel
theorem d_Mo_read_47 : decode prog_7_method_23_code 47 = .ok (.istore_n 1, 1) := by decide +kernel
theorem d_Mo_read_48 : decode prog_7_method_23_code 48 = .ok (.iload_n 1, 1) := by decide +kernel
theorem d_Mo_read_49 : decode prog_7_method_23_code 49 = .ok (.iconst 4, 1) := by decide +kernel
theorem d_Mo_read_50 : decode prog_7_method_23_code 50 = .ok (.if_icmp .ge 21, 3) := by decide +kernel
theorem d_Mo_read_53 : decode prog_7_method_23_code 53 = .ok (.aload_n 0, 1) := by decide +kernel
theorem d_Mo_read_54 : decode prog_7_method_23_code 54 = .ok (.getfield 7, 3) := by decide +kernel
theorem d_Mo_read_57 : decode prog_7_method_23_code 57 = .ok (.iload_n 1, 1) := by decide +kernel
theorem d_Mo_read_58 : decode prog_7_method_23_code 58 = .ok (.aload_n 0, 1) := by decide +kernel
theorem d_Mo_read_59 : decode prog_7_method_23_code 59 = .ok (.getfield 32, 3) := by decide +kernel
theorem d_Mo_read_62 : decode prog_7_method_23_code 62 = .ok (.iload_n 1, 1) := by decide +kernel
theorem d_Mo_read_63 : decode prog_7_method_23_code 63 = .ok (.iaload, 1) := by decide +kernel
theorem d_Mo_read_64 : decode prog_7_method_23_code 64 = .ok (.iastore, 1) := by decide +kernel
theorem d_Mo_read_65 : decode prog_7_method_23_code 65 = .ok (.iinc 1 1, 3) := by decide +kernel
theorem d_Mo_read_68 : decode prog_7_method_23_code 68 = .ok (.goto (-20), 3) := by decide +kernel
theorem d_Mo_read_71 : decode prog_7_method_23_code 71 = .ok (.aload_n 0, 1) := by decide +kernel
theorem d_Mo_read_72 : decode prog_7_method_23_code 72 = .ok (.aload_n 0, 1) := by decide +kernel
theorem d_Mo_read_73 : decode prog_7_method_23_code 73 = .ok (.getfield 105, 3) := by decide +kernel
theorem d_Mo_read_76 : decode prog_7_method_23_code 76 = .ok (.putfield 58, 3) := by decide +kernel
theorem d_Mo_read_79 : decode prog_7_method_23_code 79 = .ok (.iconst 0, 1) := by decide +kernel
theorem d_Mo_read_80 : decode prog_7_method_23_code 80 = .ok (.istore_n 1, 1) := by decide +kernel
theorem d_Mo_read_81 : decode prog_7_method_23_code 81 = .ok (.iload_n 1, 1) := by decide +kernel
theorem d_Mo_read_82 : decode prog_7_method_23_code 82 = .ok (.aload_n 0, 1) := by decide +kernel
theorem d_Mo_read_83 : decode prog_7_method_23_code 83 = .ok (.getfield 58, 3) := by decide +kernel
theorem d_Mo_read_86 : decode prog_7_method_23_code 86 = .ok (.if_icmp .ge 57, 3) := by decide +kernel
theorem d_Mo_read_89 : decode prog_7_method_23_code 89 = .ok (.aload_n 0, 1) := by decide +kernel
theorem d_Mo_read_90 : decode prog_7_method_23_code 90 = .ok (.getfield 13, 3) := by decide +kernel
theorem d_Mo_read_93 : decode prog_7_method_23_code 93 = .ok (.iload_n 1, 1) := by decide +kernel
theorem d_Mo_read_94 : decode prog_7_method_23_code 94 = .ok (.aload_n 0, 1) := by decide +kernel
theorem d_Mo_read_95 : decode prog_7_method_23_code 95 = .ok (.getfield 35, 3) := by decide +kernel
theorem d_Mo_read_98 : decode prog_7_method_23_code 98 = .ok (.iload_n 1, 1) := by decide +kernel
theorem d_Mo_read_99 : decode prog_7_method_23_code 99 = .ok (.iaload, 1) := by decide +kernel
theorem d_Mo_read_100 : decode prog_7_method_23_code 100 = .ok (.iastore, 1) := by decide +kernel
theorem d_Mo_read_101 : decode prog_7_method_23_code 101 = .ok (.aload_n 0, 1) := by decide +kernel
theorem d_Mo_read_102 : decode prog_7_method_23_code 102 = .ok (.getfield 16, 3) := by decide +kernel
theorem d_Mo_read_105 : decode prog_7_method_23_code 105 = .ok (.iload_n 1, 1) := by decide +kernel
theorem d_Mo_read_106 : decode prog_7_method_23_code 106 = .ok (.aload_n 0, 1) := by decide +kernel
theorem d_Mo_read_107 : decode prog_7_method_23_code 107 = .ok (.getfield 38, 3) := by decide +kernel
theorem d_Mo_read_110 : decode prog_7_method_23_code 110 = .ok (.iload_n 1, 1) := by decide +kernel
theorem d_Mo_read_111 : decode prog_7_method_23_code 111 = .ok (.iaload, 1) := by decide +kernel
theorem d_Mo_read_112 : decode prog_7_method_23_code 112 = .ok (.iastore, 1) := by decide +kernel
theorem d_Mo_read_113 : decode prog_7_method_23_code 113 = .ok (.aload_n 0, 1) := by decide +kernel
theorem d_Mo_read_114 : decode prog_7_method_23_code 114 = .ok (.getfield 19, 3) := by decide +kernel
theorem d_Mo_read_117 : decode prog_7_method_23_code 117 = .ok (.iload_n 1, 1) := by decide +kernel
theorem d_Mo_read_118 : decode prog_7_method_23_code 118 = .ok (.aload_n 0, 1) := by decide +kernel
theorem d_Mo_read_119 : decode prog_7_method_23_code 119 = .ok (.getfield 41, 3) := by decide +kernel
theorem d_Mo_read_122 : decode prog_7_method_23_code 122 = .ok (.iload_n 1, 1) := by decide +kernel
theorem d_Mo_read_123 : decode prog_7_method_23_code 123 = .ok (.iaload, 1) := by decide +kernel
theorem d_Mo_read_124 : decode prog_7_method_23_code 124 = .ok (.iastore, 1) := by decide +kernel
theorem d_Mo_read_125 : decode prog_7_method_23_code 125 = .ok (.aload_n 0, 1) := by decide +kernel
theorem d_Mo_read_126 : decode prog_7_method_23_code 126 = .ok (.getfield 22, 3) := by decide +kernel
theorem d_Mo_read_129 : decode prog_7_method_23_code 129 = .ok (.iload_n 1, 1) := by decide +kernel
theorem d_Mo_read_130 : decode prog_7_method_23_code 130 = .ok (.aload_n 0, 1) := by decide +kernel
theorem d_Mo_read_131 : decode prog_7_method_23_code 131 = .ok (.getfield 44, 3) := by decide +kernel
theorem d_Mo_read_134 : decode prog_7_method_23_code 134 = .ok (.iload_n 1, 1) := by decide +kernel
theorem d_Mo_read_135 : decode prog_7_method_23_code 135 = .ok (.baload, 1) := by decide +kernel
theorem d_Mo_read_136 : decode prog_7_method_23_code 136 = .ok (.bastore, 1) := by decide +kernel
theorem d_Mo_read_137 : decode prog_7_method_23_code 137 = .ok (.iinc 1 1, 3) := by decide +kernel
theorem d_Mo_read_140 : decode prog_7_method_23_code 140 = .ok (.goto (-59), 3) := by decide +kernel
theorem d_Mo_read_143 : decode prog_7_method_23_code 143 = .ok (.iconst 0, 1) := by decide +kernel
theorem d_Mo_read_144 : decode prog_7_method_23_code 144 = .ok (.ireturn, 1) := by decide +kernel
theorem d_Mo_input_0 : decode prog_7_method_24_code 0 = .ok (.aload_n 0, 1) := by decide +kernel
theorem d_Mo_input_1 : decode prog_7_method_24_code 1 = .ok (.iconst 0, 1) := by decide +kernel
theorem d_Mo_input_2 : decode prog_7_method_24_code 2 = .ok (.putfield 51, 3) := by decide +kernel
theorem d_Mo_input_5 : decode prog_7_method_24_code 5 = .ok (.iload_n 1, 1) := by decide +kernel
theorem d_Mo_input_6 : decode prog_7_method_24_code 6 = .ok (.ifCond .lt 11, 3) := by decide +kernel
theorem d_Mo_input_9 : decode prog_7_method_24_code 9 = .ok (.iload_n 1, 1) := by decide +kernel
theorem d_Mo_input_10 : decode prog_7_method_24_code 10 = .ok (.aload_n 0, 1) := by decide +kernel
theorem d_Mo_input_11 : decode prog_7_method_24_code 11 = .ok (.getfield 58, 3) := by decide +kernel
theorem d_Mo_input_14 : decode prog_7_method_24_code 14 = .ok (.if_icmp .lt 6, 3) := by decide +kernel
theorem d_Mo_input_17 : decode prog_7_method_24_code 17 = .ok (.ldc 121, 2) := by decide +kernel
theorem d_Mo_input_19 : decode prog_7_method_24_code 19 = .ok (.ireturn, 1) := by decide +kernel
theorem d_Mo_input_20 : decode prog_7_method_24_code 20 = .ok (.iload_n 2, 1) := by decide +kernel
theorem d_Mo_input_21 : decode prog_7_method_24_code 21 = .ok (.ifCond .ne 12, 3) := by decide +kernel
theorem d_Mo_input_24 : decode prog_7_method_24_code 24 = .ok (.aload_n 0, 1) := by decide +kernel
theorem d_Mo_input_25 : decode prog_7_method_24_code 25 = .ok (.getfield 13, 3) := by decide +kernel
theorem d_Mo_input_28 : decode prog_7_method_24_code 28 = .ok (.iload_n 1, 1) := by decide +kernel
theorem d_Mo_input_29 : decode prog_7_method_24_code 29 = .ok (.iaload, 1) := by decide +kernel
theorem d_Mo_input_30 : decode prog_7_method_24_code 30 = .ok (.goto 55, 3) := by decide +kernel
theorem d_Mo_input_33 : decode prog_7_method_24_code 33 = .ok (.iload_n 2, 1) := by decide +kernel
theorem d_Mo_input_34 : decode prog_7_method_24_code 34 = .ok (.iconst 1, 1) := by decide +kernel
theorem d_Mo_input_35 : decode prog_7_method_24_code 35 = .ok (.if_icmp .ne 12, 3) := by decide +kernel
theorem d_Mo_input_38 : decode prog_7_method_24_code 38 = .ok (.aload_n 0, 1) := by decide +kernel
theorem d_Mo_input_39 : decode prog_7_method_24_code 39 = .ok (.getfield 16, 3) := by decide +kernel
theorem d_Mo_input_42 : decode prog_7_method_24_code 42 = .ok (.iload_n 1, 1) := by decide +kernel
theorem d_Mo_input_43 : decode prog_7_method_24_code 43 = .ok (.iaload, 1) := by decide +kernel
theorem d_Mo_input_44 : decode prog_7_method_24_code 44 = .ok (.goto 41, 3) := by decide +kernel
theorem d_Mo_input_47 : decode prog_7_method_24_code 47 = .ok (.iload_n 2, 1) := by decide +kernel
theorem d_Mo_input_48 : decode prog_7_method_24_code 48 = .ok (.iconst 2, 1) := by decide +kernel
theorem d_Mo_input_49 : decode prog_7_method_24_code 49 = .ok (.if_icmp .ne 12, 3) := by decide +kernel
theorem d_Mo_input_52 : decode prog_7_method_24_code 52 = .ok (.aload_n 0, 1) := by decide +kernel
theorem d_Mo_input_53 : decode prog_7_method_24_code 53 = .ok (.getfield 19, 3) := by decide +kernel
theorem d_Mo_input_56 : decode prog_7_method_24_code 56 = .ok (.iload_n 1, 1) := by decide +kernel
theorem d_Mo_input_57 : decode prog_7_method_24_code 57 = .ok (.iaload, 1) := by decide +kernel
theorem d_Mo_input_58 : decode prog_7_method_24_code 58 = .ok (.goto 27, 3) := by decide +kernel
theorem d_Mo_input_61 : decode prog_7_method_24_code 61 = .ok (.iload_n 2, 1) := by decide +kernel
theorem d_Mo_input_62 : decode prog_7_method_24_code 62 = .ok (.iconst 3, 1) := by decide +kernel
theorem d_Mo_input_63 : decode prog_7_method_24_code 63 = .ok (.if_icmp .ne 20, 3) := by decide +kernel
theorem d_Mo_input_66 : decode prog_7_method_24_code 66 = .ok (.aload_n 0, 1) := by decide +kernel
theorem d_Mo_input_67 : decode prog_7_method_24_code 67 = .ok (.getfield 22, 3) := by decide +kernel
theorem d_Mo_input_70 : decode prog_7_method_24_code 70 = .ok (.iload_n 1, 1) := by decide +kernel
theorem d_Mo_input_71 : decode prog_7_method_24_code 71 = .ok (.baload, 1) := by decide +kernel
theorem d_Mo_input_72 : decode prog_7_method_24_code 72 = .ok (.ifCond .eq 7, 3) := by decide +kernel
theorem d_Mo_input_75 : decode prog_7_method_24_code 75 = .ok (.iconst 1, 1) := by decide +kernel
theorem d_Mo_input_76 : decode prog_7_method_24_code 76 = .ok (.goto 9, 3) := by decide +kernel
theorem d_Mo_input_79 : decode prog_7_method_24_code 79 = .ok (.iconst 0, 1) := by decide +kernel
theorem d_Mo_input_80 : decode prog_7_method_24_code 80 = .ok (.goto 5, 3) := by decide +kernel
theorem d_Mo_input_83 : decode prog_7_method_24_code 83 = .ok (.ldc 121, 2) := by decide +kernel
theorem d_Mo_input_85 : decode prog_7_method_24_code 85 = .ok (.ireturn, 1) := by decide +kernel
theorem d_Mo_begin_0 : decode prog_7_method_25_code 0 = .ok (.aload_n 0, 1) := by decide +kernel
theorem d_Mo_begin_1 : decode prog_7_method_25_code 1 = .ok (.iconst 0, 1) := by decide +kernel
theorem d_Mo_begin_2 : decode prog_7_method_25_code 2 = .ok (.putfield 51, 3) := by decide +kernel
theorem d_Mo_begin_5 : decode prog_7_method_25_code 5 = .ok (.iload_n 1, 1) := by decide +kernel
theorem d_Mo_begin_6 : decode prog_7_method_25_code 6 = .ok (.ifCond .lt 8, 3) := by decide +kernel
theorem d_Mo_begin_9 : decode prog_7_method_25_code 9 = .ok (.iload_n 1, 1) := by decide +kernel
theorem d_Mo_begin_10 : decode prog_7_method_25_code 10 = .ok (.iconst 3, 1) := by decide +kernel
theorem d_Mo_begin_11 : decode prog_7_method_25_code 11 = .ok (.if_icmp .le 8, 3) := by decide +kernel
theorem d_Mo_begin_14 : decode prog_7_method_25_code 14 = .ok (.ldc 121, 2) := by decide +kernel
theorem d_Mo_begin_16 : decode prog_7_method_25_code 16 = .ok (.goto 9, 3) := by decide +kernel
theorem d_Mo_begin_19 : decode prog_7_method_25_code 19 = .ok (.aload_n 0, 1) := by decide +kernel
theorem d_Mo_begin_20 : decode prog_7_method_25_code 20 = .ok (.getfield 7, 3) := by decide +kernel
