theorem d_Mo_begin_23 : decode prog_7_method_25_code 23 = .ok (.iload_n 1, 1) := by decide +kernel
theorem d_Mo_begin_24 : decode prog_7_method_25_code 24 = .ok (.iaload, 1) := by decide +kernel
theorem d_Mo_begin_25 : decode prog_7_method_25_code 25 = .ok (.ireturn, 1) := by decide +kernel
theorem d_Mo_byteAt_0 : decode prog_7_method_26_code 0 = .ok (.aload_n 0, 1) := by decide +kernel
theorem d_Mo_byteAt_1 : decode prog_7_method_26_code 1 = .ok (.iconst 0, 1) := by decide +kernel
theorem d_Mo_byteAt_2 : decode prog_7_method_26_code 2 = .ok (.putfield 51, 3) := by decide +kernel
theorem d_Mo_byteAt_5 : decode prog_7_method_26_code 5 = .ok (.iload_n 1, 1) := by decide +kernel
theorem d_Mo_byteAt_6 : decode prog_7_method_26_code 6 = .ok (.ifCond .lt 22, 3) := by decide +kernel
theorem d_Mo_byteAt_9 : decode prog_7_method_26_code 9 = .ok (.iload_n 1, 1) := by decide +kernel
theorem d_Mo_byteAt_10 : decode prog_7_method_26_code 10 = .ok (.iload_n 2, 1) := by decide +kernel
theorem d_Mo_byteAt_11 : decode prog_7_method_26_code 11 = .ok (.ifCond .eq 10, 3) := by decide +kernel
theorem d_Mo_byteAt_14 : decode prog_7_method_26_code 14 = .ok (.aload_n 0, 1) := by decide +kernel
theorem d_Mo_byteAt_15 : decode prog_7_method_26_code 15 = .ok (.getfield 85, 3) := by decide +kernel
theorem d_Mo_byteAt_18 : decode prog_7_method_26_code 18 = .ok (.goto 7, 3) := by decide +kernel
theorem d_Mo_byteAt_21 : decode prog_7_method_26_code 21 = .ok (.aload_n 0, 1) := by decide +kernel
theorem d_Mo_byteAt_22 : decode prog_7_method_26_code 22 = .ok (.getfield 61, 3) := by decide +kernel
theorem d_Mo_byteAt_25 : decode prog_7_method_26_code 25 = .ok (.if_icmp .lt 7, 3) := by decide +kernel
theorem d_Mo_byteAt_28 : decode prog_7_method_26_code 28 = .ok (.iconst (-1), 1) := by decide +kernel
theorem d_Mo_byteAt_29 : decode prog_7_method_26_code 29 = .ok (.goto 22, 3) := by decide +kernel
theorem d_Mo_byteAt_32 : decode prog_7_method_26_code 32 = .ok (.iload_n 2, 1) := by decide +kernel
theorem d_Mo_byteAt_33 : decode prog_7_method_26_code 33 = .ok (.ifCond .eq 12, 3) := by decide +kernel
theorem d_Mo_byteAt_36 : decode prog_7_method_26_code 36 = .ok (.aload_n 0, 1) := by decide +kernel
theorem d_Mo_byteAt_37 : decode prog_7_method_26_code 37 = .ok (.getfield 29, 3) := by decide +kernel
theorem d_Mo_byteAt_40 : decode prog_7_method_26_code 40 = .ok (.iload_n 1, 1) := by decide +kernel
theorem d_Mo_byteAt_41 : decode prog_7_method_26_code 41 = .ok (.iaload, 1) := by decide +kernel
theorem d_Mo_byteAt_42 : decode prog_7_method_26_code 42 = .ok (.goto 9, 3) := by decide +kernel
theorem d_Mo_byteAt_45 : decode prog_7_method_26_code 45 = .ok (.aload_n 0, 1) := by decide +kernel
theorem d_Mo_byteAt_46 : decode prog_7_method_26_code 46 = .ok (.getfield 26, 3) := by decide +kernel
theorem d_Mo_byteAt_49 : decode prog_7_method_26_code 49 = .ok (.iload_n 1, 1) := by decide +kernel
theorem d_Mo_byteAt_50 : decode prog_7_method_26_code 50 = .ok (.iaload, 1) := by decide +kernel
theorem d_Mo_byteAt_51 : decode prog_7_method_26_code 51 = .ok (.ireturn, 1) := by decide +kernel
theorem d_Mo_groups_0 : decode prog_7_method_27_code 0 = .ok (.iconst 0, 1) := by decide +kernel
theorem d_Mo_groups_1 : decode prog_7_method_27_code 1 = .ok (.istore_n 1, 1) := by decide +kernel
theorem d_Mo_groups_2 : decode prog_7_method_27_code 2 = .ok (.iconst 0, 1) := by decide +kernel
theorem d_Mo_groups_3 : decode prog_7_method_27_code 3 = .ok (.istore_n 2, 1) := by decide +kernel
theorem d_Mo_groups_4 : decode prog_7_method_27_code 4 = .ok (.iload_n 2, 1) := by decide +kernel
theorem d_Mo_groups_5 : decode prog_7_method_27_code 5 = .ok (.aload_n 0, 1) := by decide +kernel
theorem d_Mo_groups_6 : decode prog_7_method_27_code 6 = .ok (.getfield 58, 3) := by decide +kernel
theorem d_Mo_groups_9 : decode prog_7_method_27_code 9 = .ok (.if_icmp .ge 17, 3) := by decide +kernel
theorem d_Mo_groups_12 : decode prog_7_method_27_code 12 = .ok (.iinc 1 1, 3) := by decide +kernel
theorem d_Mo_groups_15 : decode prog_7_method_27_code 15 = .ok (.iload_n 2, 1) := by decide +kernel
theorem d_Mo_groups_16 : decode prog_7_method_27_code 16 = .ok (.aload_n 0, 1) := by decide +kernel
theorem d_Mo_groups_17 : decode prog_7_method_27_code 17 = .ok (.iload_n 2, 1) := by decide +kernel
theorem d_Mo_groups_18 : decode prog_7_method_27_code 18 = .ok (.invokevirtual 75, 3) := by decide +kernel
theorem d_Mo_groups_21 : decode prog_7_method_27_code 21 = .ok (.iadd, 1) := by decide +kernel
theorem d_Mo_groups_22 : decode prog_7_method_27_code 22 = .ok (.istore_n 2, 1) := by decide +kernel
theorem d_Mo_groups_23 : decode prog_7_method_27_code 23 = .ok (.goto (-19), 3) := by decide +kernel
theorem d_Mo_groups_26 : decode prog_7_method_27_code 26 = .ok (.iload_n 1, 1) := by decide +kernel
theorem d_Mo_groups_27 : decode prog_7_method_27_code 27 = .ok (.ireturn, 1) := by decide +kernel
theorem d_Mo_using_0 : decode prog_7_method_28_code 0 = .ok (.iconst 0, 1) := by decide +kernel
theorem d_Mo_using_1 : decode prog_7_method_28_code 1 = .ok (.istore_n 1, 1) := by decide +kernel
theorem d_Mo_using_2 : decode prog_7_method_28_code 2 = .ok (.iconst 0, 1) := by decide +kernel
theorem d_Mo_using_3 : decode prog_7_method_28_code 3 = .ok (.istore_n 2, 1) := by decide +kernel
theorem d_Mo_using_4 : decode prog_7_method_28_code 4 = .ok (.iload_n 2, 1) := by decide +kernel
theorem d_Mo_using_5 : decode prog_7_method_28_code 5 = .ok (.aload_n 0, 1) := by decide +kernel
theorem d_Mo_using_6 : decode prog_7_method_28_code 6 = .ok (.getfield 58, 3) := by decide +kernel
theorem d_Mo_using_9 : decode prog_7_method_28_code 9 = .ok (.if_icmp .ge 26, 3) := by decide +kernel
theorem d_Mo_using_12 : decode prog_7_method_28_code 12 = .ok (.iload_n 1, 1) := by decide +kernel
theorem d_Mo_using_13 : decode prog_7_method_28_code 13 = .ok (.aload_n 0, 1) := by decide +kernel
theorem d_Mo_using_14 : decode prog_7_method_28_code 14 = .ok (.getfield 22, 3) := by decide +kernel
theorem d_Mo_using_17 : decode prog_7_method_28_code 17 = .ok (.iload_n 2, 1) := by decide +kernel
theorem d_Mo_using_18 : decode prog_7_method_28_code 18 = .ok (.baload, 1) := by decide +kernel
theorem d_Mo_using_19 : decode prog_7_method_28_code 19 = .ok (.ifCond .eq 7, 3) := by decide +kernel
theorem d_Mo_using_22 : decode prog_7_method_28_code 22 = .ok (.iconst 1, 1) := by decide +kernel
theorem d_Mo_using_23 : decode prog_7_method_28_code 23 = .ok (.goto 4, 3) := by decide +kernel
theorem d_Mo_using_26 : decode prog_7_method_28_code 26 = .ok (.iconst 0, 1) := by decide +kernel
theorem d_Mo_using_27 : decode prog_7_method_28_code 27 = .ok (.iadd, 1) := by decide +kernel
theorem d_Mo_using_28 : decode prog_7_method_28_code 28 = .ok (.istore_n 1, 1) := by decide +kernel
theorem d_Mo_using_29 : decode prog_7_method_28_code 29 = .ok (.iinc 2 1, 3) := by decide +kernel
theorem d_Mo_using_32 : decode prog_7_method_28_code 32 = .ok (.goto (-28), 3) := by decide +kernel
theorem d_Mo_using_35 : decode prog_7_method_28_code 35 = .ok (.iload_n 1, 1) := by decide +kernel
theorem d_Mo_using_36 : decode prog_7_method_28_code 36 = .ok (.ireturn, 1) := by decide +kernel
theorem d_Mo_look_0 : decode prog_7_method_29_code 0 = .ok (.aload_n 0, 1) := by decide +kernel
theorem d_Mo_look_1 : decode prog_7_method_29_code 1 = .ok (.iconst 0, 1) := by decide +kernel
theorem d_Mo_look_2 : decode prog_7_method_29_code 2 = .ok (.putfield 51, 3) := by decide +kernel
theorem d_Mo_look_5 : decode prog_7_method_29_code 5 = .ok (.iload_n 1, 1) := by decide +kernel
theorem d_Mo_look_6 : decode prog_7_method_29_code 6 = .ok (.tableswitch 77 0 6 #[42, 47, 52, 57, 62, 67, 72], 42) := by decide +kernel
theorem d_Mo_look_48 : decode prog_7_method_29_code 48 = .ok (.aload_n 0, 1) := by decide +kernel
theorem d_Mo_look_49 : decode prog_7_method_29_code 49 = .ok (.getfield 58, 3) := by decide +kernel
theorem d_Mo_look_52 : decode prog_7_method_29_code 52 = .ok (.ireturn, 1) := by decide +kernel
theorem d_Mo_look_53 : decode prog_7_method_29_code 53 = .ok (.aload_n 0, 1) := by decide +kernel
theorem d_Mo_look_54 : decode prog_7_method_29_code 54 = .ok (.invokevirtual 122, 3) := by decide +kernel
theorem d_Mo_look_57 : decode prog_7_method_29_code 57 = .ok (.ireturn, 1) := by decide +kernel
theorem d_Mo_look_58 : decode prog_7_method_29_code 58 = .ok (.aload_n 0, 1) := by decide +kernel
theorem d_Mo_look_59 : decode prog_7_method_29_code 59 = .ok (.getfield 61, 3) := by decide +kernel
theorem d_Mo_look_62 : decode prog_7_method_29_code 62 = .ok (.ireturn, 1) := by decide +kernel
theorem d_Mo_look_63 : decode prog_7_method_29_code 63 = .ok (.aload_n 0, 1) := by decide +kernel
theorem d_Mo_look_64 : decode prog_7_method_29_code 64 = .ok (.getfield 85, 3) := by decide +kernel
theorem d_Mo_look_67 : decode prog_7_method_29_code 67 = .ok (.ireturn, 1) := by decide +kernel
theorem d_Mo_look_68 : decode prog_7_method_29_code 68 = .ok (.aload_n 0, 1) := by decide +kernel
theorem d_Mo_look_69 : decode prog_7_method_29_code 69 = .ok (.getfield 90, 3) := by decide +kernel
theorem d_Mo_look_72 : decode prog_7_method_29_code 72 = .ok (.ireturn, 1) := by decide +kernel
theorem d_Mo_look_73 : decode prog_7_method_29_code 73 = .ok (.aload_n 0, 1) := by decide +kernel
theorem d_Mo_look_74 : decode prog_7_method_29_code 74 = .ok (.getfield 47, 3) := by decide +kernel
theorem d_Mo_look_77 : decode prog_7_method_29_code 77 = .ok (.ireturn, 1) := by decide +kernel
theorem d_Mo_look_78 : decode prog_7_method_29_code 78 = .ok (.aload_n 0, 1) := by decide +kernel
theorem d_Mo_look_79 : decode prog_7_method_29_code 79 = .ok (.invokevirtual 125, 3) := by decide +kernel
theorem d_Mo_look_82 : decode prog_7_method_29_code 82 = .ok (.ireturn, 1) := by decide +kernel
theorem d_Mo_look_83 : decode prog_7_method_29_code 83 = .ok (.iconst (-1), 1) := by decide +kernel
theorem d_Mo_look_84 : decode prog_7_method_29_code 84 = .ok (.ireturn, 1) := by decide +kernel
theorem d_law_law_0 : decode code 0 = .ok (.new 7, 3) := by decide +kernel
theorem d_law_law_3 : decode code 3 = .ok (.dup, 1) := by decide +kernel
theorem d_law_law_4 : decode code 4 = .ok (.invokespecial 9, 3) := by decide +kernel
theorem d_law_law_7 : decode code 7 = .ok (.astore_n 1, 1) := by decide +kernel
theorem d_law_law_8 : decode code 8 = .ok (.new 10, 3) := by decide +kernel
theorem d_law_law_11 : decode code 11 = .ok (.dup, 1) := by decide +kernel
theorem d_law_law_12 : decode code 12 = .ok (.invokespecial 12, 3) := by decide +kernel
theorem d_law_law_15 : decode code 15 = .ok (.astore_n 2, 1) := by decide +kernel
theorem d_law_law_16 : decode code 16 = .ok (.iconst 0, 1) := by decide +kernel
theorem d_law_law_17 : decode code 17 = .ok (.istore_n 3, 1) := by decide +kernel
theorem d_law_law_18 : decode code 18 = .ok (.iload_n 3, 1) := by decide +kernel
theorem d_law_law_19 : decode code 19 = .ok (.aload_n 0, 1) := by decide +kernel
theorem d_law_law_20 : decode code 20 = .ok (.arraylength, 1) := by decide +kernel
theorem d_law_law_21 : decode code 21 = .ok (.bipush 6, 2) := by decide +kernel
theorem d_law_law_23 : decode code 23 = .ok (.isub, 1) := by decide +kernel
theorem d_law_law_24 : decode code 24 = .ok (.if_icmp .gt 558, 3) := by decide +kernel
theorem d_law_law_27 : decode code 27 = .ok (.aload_n 0, 1) := by decide +kernel
theorem d_law_law_28 : decode code 28 = .ok (.iload_n 3, 1) := by decide +kernel
theorem d_law_law_29 : decode code 29 = .ok (.iaload, 1) := by decide +kernel
theorem d_law_law_30 : decode code 30 = .ok (.bipush 15, 2) := by decide +kernel
theorem d_law_law_32 : decode code 32 = .ok (.iand, 1) := by decide +kernel
theorem d_law_law_33 : decode code 33 = .ok (.tableswitch 543 0 13 #[71, 124, 203, 226, 259, 272, 335, 346, 369, 402, 415, 448, 471, 520], 71) := by decide +kernel
theorem d_law_law_104 : decode code 104 = .ok (.aload_n 1, 1) := by decide +kernel
theorem d_law_law_105 : decode code 105 = .ok (.aload_n 0, 1) := by decide +kernel
theorem d_law_law_106 : decode code 106 = .ok (.iload_n 3, 1) := by decide +kernel
theorem d_law_law_107 : decode code 107 = .ok (.iconst 1, 1) := by decide +kernel
theorem d_law_law_108 : decode code 108 = .ok (.iadd, 1) := by decide +kernel
theorem d_law_law_109 : decode code 109 = .ok (.iaload, 1) := by decide +kernel
theorem d_law_law_110 : decode code 110 = .ok (.aload_n 0, 1) := by decide +kernel
theorem d_law_law_111 : decode code 111 = .ok (.iload_n 3, 1) := by decide +kernel
theorem d_law_law_112 : decode code 112 = .ok (.iconst 2, 1) := by decide +kernel
theorem d_law_law_113 : decode code 113 = .ok (.iadd, 1) := by decide +kernel
theorem d_law_law_114 : decode code 114 = .ok (.iaload, 1) := by decide +kernel
theorem d_law_law_115 : decode code 115 = .ok (.aload_n 0, 1) := by decide +kernel
theorem d_law_law_116 : decode code 116 = .ok (.iload_n 3, 1) := by decide +kernel
theorem d_law_law_117 : decode code 117 = .ok (.iconst 3, 1) := by decide +kernel
theorem d_law_law_118 : decode code 118 = .ok (.iadd, 1) := by decide +kernel
theorem d_law_law_119 : decode code 119 = .ok (.iaload, 1) := by decide +kernel
theorem d_law_law_120 : decode code 120 = .ok (.aload_n 0, 1) := by decide +kernel
theorem d_law_law_121 : decode code 121 = .ok (.iload_n 3, 1) := by decide +kernel
theorem d_law_law_122 : decode code 122 = .ok (.iconst 4, 1) := by decide +kernel
theorem d_law_law_123 : decode code 123 = .ok (.iadd, 1) := by decide +kernel
theorem d_law_law_124 : decode code 124 = .ok (.iaload, 1) := by decide +kernel
theorem d_law_law_125 : decode code 125 = .ok (.invokevirtual 13, 3) := by decide +kernel
theorem d_law_law_128 : decode code 128 = .ok (.aload_n 2, 1) := by decide +kernel
theorem d_law_law_129 : decode code 129 = .ok (.aload_n 0, 1) := by decide +kernel
theorem d_law_law_130 : decode code 130 = .ok (.iload_n 3, 1) := by decide +kernel
theorem d_law_law_131 : decode code 131 = .ok (.iconst 1, 1) := by decide +kernel
theorem d_law_law_132 : decode code 132 = .ok (.iadd, 1) := by decide +kernel
theorem d_law_law_133 : decode code 133 = .ok (.iaload, 1) := by decide +kernel
theorem d_law_law_134 : decode code 134 = .ok (.aload_n 0, 1) := by decide +kernel
theorem d_law_law_135 : decode code 135 = .ok (.iload_n 3, 1) := by decide +kernel
theorem d_law_law_136 : decode code 136 = .ok (.iconst 2, 1) := by decide +kernel
theorem d_law_law_137 : decode code 137 = .ok (.iadd, 1) := by decide +kernel
theorem d_law_law_138 : decode code 138 = .ok (.iaload, 1) := by decide +kernel
theorem d_law_law_139 : decode code 139 = .ok (.aload_n 0, 1) := by decide +kernel
theorem d_law_law_140 : decode code 140 = .ok (.iload_n 3, 1) := by decide +kernel
theorem d_law_law_141 : decode code 141 = .ok (.iconst 3, 1) := by decide +kernel
theorem d_law_law_142 : decode code 142 = .ok (.iadd, 1) := by decide +kernel
theorem d_law_law_143 : decode code 143 = .ok (.iaload, 1) := by decide +kernel
theorem d_law_law_144 : decode code 144 = .ok (.aload_n 0, 1) := by decide +kernel
theorem d_law_law_145 : decode code 145 = .ok (.iload_n 3, 1) := by decide +kernel
theorem d_law_law_146 : decode code 146 = .ok (.iconst 4, 1) := by decide +kernel
theorem d_law_law_147 : decode code 147 = .ok (.iadd, 1) := by decide +kernel
theorem d_law_law_148 : decode code 148 = .ok (.iaload, 1) := by decide +kernel
theorem d_law_law_149 : decode code 149 = .ok (.invokevirtual 17, 3) := by decide +kernel
theorem d_law_law_152 : decode code 152 = .ok (.if_icmp .eq 424, 3) := by decide +kernel
theorem d_law_law_155 : decode code 155 = .ok (.iconst 0, 1) := by decide +kernel
theorem d_law_law_156 : decode code 156 = .ok (.ireturn, 1) := by decide +kernel
theorem d_law_law_157 : decode code 157 = .ok (.aload_n 1, 1) := by decide +kernel
theorem d_law_law_158 : decode code 158 = .ok (.aload_n 0, 1) := by decide +kernel
theorem d_law_law_159 : decode code 159 = .ok (.iload_n 3, 1) := by decide +kernel
theorem d_law_law_160 : decode code 160 = .ok (.iconst 1, 1) := by decide +kernel
theorem d_law_law_161 : decode code 161 = .ok (.iadd, 1) := by decide +kernel
theorem d_law_law_162 : decode code 162 = .ok (.iaload, 1) := by decide +kernel
theorem d_law_law_163 : decode code 163 = .ok (.aload_n 0, 1) := by decide +kernel
theorem d_law_law_164 : decode code 164 = .ok (.iload_n 3, 1) := by decide +kernel
theorem d_law_law_165 : decode code 165 = .ok (.iconst 2, 1) := by decide +kernel
theorem d_law_law_166 : decode code 166 = .ok (.iadd, 1) := by decide +kernel
theorem d_law_law_167 : decode code 167 = .ok (.iaload, 1) := by decide +kernel
theorem d_law_law_168 : decode code 168 = .ok (.aload_n 0, 1) := by decide +kernel
theorem d_law_law_169 : decode code 169 = .ok (.iload_n 3, 1) := by decide +kernel
theorem d_law_law_170 : decode code 170 = .ok (.iconst 3, 1) := by decide +kernel
theorem d_law_law_171 : decode code 171 = .ok (.iadd, 1) := by decide +kernel
theorem d_law_law_172 : decode code 172 = .ok (.iaload, 1) := by decide +kernel
theorem d_law_law_173 : decode code 173 = .ok (.aload_n 0, 1) := by decide +kernel
theorem d_law_law_174 : decode code 174 = .ok (.iload_n 3, 1) := by decide +kernel
theorem d_law_law_175 : decode code 175 = .ok (.iconst 4, 1) := by decide +kernel
theorem d_law_law_176 : decode code 176 = .ok (.iadd, 1) := by decide +kernel
theorem d_law_law_177 : decode code 177 = .ok (.iaload, 1) := by decide +kernel
theorem d_law_law_178 : decode code 178 = .ok (.ifCond .eq 7, 3) := by decide +kernel
theorem d_law_law_181 : decode code 181 = .ok (.iconst 1, 1) := by decide +kernel
theorem d_law_law_182 : decode code 182 = .ok (.goto 4, 3) := by decide +kernel
theorem d_law_law_185 : decode code 185 = .ok (.iconst 0, 1) := by decide +kernel
theorem d_law_law_186 : decode code 186 = .ok (.aload_n 0, 1) := by decide +kernel
theorem d_law_law_187 : decode code 187 = .ok (.iload_n 3, 1) := by decide +kernel
theorem d_law_law_188 : decode code 188 = .ok (.iconst 5, 1) := by decide +kernel
theorem d_law_law_189 : decode code 189 = .ok (.iadd, 1) := by decide +kernel
theorem d_law_law_190 : decode code 190 = .ok (.iaload, 1) := by decide +kernel
theorem d_law_law_191 : decode code 191 = .ok (.invokevirtual 18, 3) := by decide +kernel
theorem d_law_law_194 : decode code 194 = .ok (.aload_n 2, 1) := by decide +kernel
theorem d_law_law_195 : decode code 195 = .ok (.aload_n 0, 1) := by decide +kernel
theorem d_law_law_196 : decode code 196 = .ok (.iload_n 3, 1) := by decide +kernel
theorem d_law_law_197 : decode code 197 = .ok (.iconst 1, 1) := by decide +kernel
theorem d_law_law_198 : decode code 198 = .ok (.iadd, 1) := by decide +kernel
theorem d_law_law_199 : decode code 199 = .ok (.iaload, 1) := by decide +kernel
theorem d_law_law_200 : decode code 200 = .ok (.aload_n 0, 1) := by decide +kernel
theorem d_law_law_201 : decode code 201 = .ok (.iload_n 3, 1) := by decide +kernel
theorem d_law_law_202 : decode code 202 = .ok (.iconst 2, 1) := by decide +kernel
theorem d_law_law_203 : decode code 203 = .ok (.iadd, 1) := by decide +kernel
theorem d_law_law_204 : decode code 204 = .ok (.iaload, 1) := by decide +kernel
theorem d_law_law_205 : decode code 205 = .ok (.aload_n 0, 1) := by decide +kernel
theorem d_law_law_206 : decode code 206 = .ok (.iload_n 3, 1) := by decide +kernel
theorem d_law_law_207 : decode code 207 = .ok (.iconst 3, 1) := by decide +kernel
theorem d_law_law_208 : decode code 208 = .ok (.iadd, 1) := by decide +kernel
theorem d_law_law_209 : decode code 209 = .ok (.iaload, 1) := by decide +kernel
theorem d_law_law_210 : decode code 210 = .ok (.aload_n 0, 1) := by decide +kernel
theorem d_law_law_211 : decode code 211 = .ok (.iload_n 3, 1) := by decide +kernel
theorem d_law_law_212 : decode code 212 = .ok (.iconst 4, 1) := by decide +kernel
theorem d_law_law_213 : decode code 213 = .ok (.iadd, 1) := by decide +kernel
theorem d_law_law_214 : decode code 214 = .ok (.iaload, 1) := by decide +kernel
theorem d_law_law_215 : decode code 215 = .ok (.ifCond .eq 7, 3) := by decide +kernel
theorem d_law_law_218 : decode code 218 = .ok (.iconst 1, 1) := by decide +kernel
theorem d_law_law_219 : decode code 219 = .ok (.goto 4, 3) := by decide +kernel
theorem d_law_law_222 : decode code 222 = .ok (.iconst 0, 1) := by decide +kernel
theorem d_law_law_223 : decode code 223 = .ok (.aload_n 0, 1) := by decide +kernel
theorem d_law_law_224 : decode code 224 = .ok (.iload_n 3, 1) := by decide +kernel
theorem d_law_law_225 : decode code 225 = .ok (.iconst 5, 1) := by decide +kernel
theorem d_law_law_226 : decode code 226 = .ok (.iadd, 1) := by decide +kernel
theorem d_law_law_227 : decode code 227 = .ok (.iaload, 1) := by decide +kernel
theorem d_law_law_228 : decode code 228 = .ok (.invokevirtual 22, 3) := by decide +kernel
theorem d_law_law_231 : decode code 231 = .ok (.if_icmp .eq 345, 3) := by decide +kernel
theorem d_law_law_234 : decode code 234 = .ok (.iconst 0, 1) := by decide +kernel
theorem d_law_law_235 : decode code 235 = .ok (.ireturn, 1) := by decide +kernel
theorem d_law_law_236 : decode code 236 = .ok (.aload_n 1, 1) := by decide +kernel
theorem d_law_law_237 : decode code 237 = .ok (.aload_n 0, 1) := by decide +kernel
theorem d_law_law_238 : decode code 238 = .ok (.iload_n 3, 1) := by decide +kernel
theorem d_law_law_239 : decode code 239 = .ok (.iconst 1, 1) := by decide +kernel
theorem d_law_law_240 : decode code 240 = .ok (.iadd, 1) := by decide +kernel
theorem d_law_law_241 : decode code 241 = .ok (.iaload, 1) := by decide +kernel
theorem d_law_law_242 : decode code 242 = .ok (.invokevirtual 23, 3) := by decide +kernel
theorem d_law_law_245 : decode code 245 = .ok (.aload_n 2, 1) := by decide +kernel
theorem d_law_law_246 : decode code 246 = .ok (.aload_n 0, 1) := by decide +kernel
theorem d_law_law_247 : decode code 247 = .ok (.iload_n 3, 1) := by decide +kernel
theorem d_law_law_248 : decode code 248 = .ok (.iconst 1, 1) := by decide +kernel
theorem d_law_law_249 : decode code 249 = .ok (.iadd, 1) := by decide +kernel
theorem d_law_law_250 : decode code 250 = .ok (.iaload, 1) := by decide +kernel
theorem d_law_law_251 : decode code 251 = .ok (.invokevirtual 27, 3) := by decide +kernel
theorem d_law_law_254 : decode code 254 = .ok (.if_icmp .eq 322, 3) := by decide +kernel
theorem d_law_law_257 : decode code 257 = .ok (.iconst 0, 1) := by decide +kernel
theorem d_law_law_258 : decode code 258 = .ok (.ireturn, 1) := by decide +kernel
theorem d_law_law_259 : decode code 259 = .ok (.aload_n 1, 1) := by decide +kernel
theorem d_law_law_260 : decode code 260 = .ok (.aload_n 0, 1) := by decide +kernel
theorem d_law_law_261 : decode code 261 = .ok (.iload_n 3, 1) := by decide +kernel
theorem d_law_law_262 : decode code 262 = .ok (.iconst 1, 1) := by decide +kernel
theorem d_law_law_263 : decode code 263 = .ok (.iadd, 1) := by decide +kernel
theorem d_law_law_264 : decode code 264 = .ok (.iaload, 1) := by decide +kernel
theorem d_law_law_265 : decode code 265 = .ok (.aload_n 0, 1) := by decide +kernel
theorem d_law_law_266 : decode code 266 = .ok (.iload_n 3, 1) := by decide +kernel
theorem d_law_law_267 : decode code 267 = .ok (.iconst 2, 1) := by decide +kernel
theorem d_law_law_268 : decode code 268 = .ok (.iadd, 1) := by decide +kernel
theorem d_law_law_269 : decode code 269 = .ok (.iaload, 1) := by decide +kernel
theorem d_law_law_270 : decode code 270 = .ok (.invokevirtual 28, 3) := by decide +kernel
theorem d_law_law_273 : decode code 273 = .ok (.aload_n 2, 1) := by decide +kernel
theorem d_law_law_274 : decode code 274 = .ok (.aload_n 0, 1) := by decide +kernel
theorem d_law_law_275 : decode code 275 = .ok (.iload_n 3, 1) := by decide +kernel
theorem d_law_law_276 : decode code 276 = .ok (.iconst 1, 1) := by decide +kernel
theorem d_law_law_277 : decode code 277 = .ok (.iadd, 1) := by decide +kernel
theorem d_law_law_278 : decode code 278 = .ok (.iaload, 1) := by decide +kernel
theorem d_law_law_279 : decode code 279 = .ok (.aload_n 0, 1) := by decide +kernel
theorem d_law_law_280 : decode code 280 = .ok (.iload_n 3, 1) := by decide +kernel
theorem d_law_law_281 : decode code 281 = .ok (.iconst 2, 1) := by decide +kernel
theorem d_law_law_282 : decode code 282 = .ok (.iadd, 1) := by decide +kernel
theorem d_law_law_283 : decode code 283 = .ok (.iaload, 1) := by decide +kernel
theorem d_law_law_284 : decode code 284 = .ok (.invokevirtual 32, 3) := by decide +kernel
theorem d_law_law_287 : decode code 287 = .ok (.if_icmp .eq 289, 3) := by decide +kernel
theorem d_law_law_290 : decode code 290 = .ok (.iconst 0, 1) := by decide +kernel
theorem d_law_law_291 : decode code 291 = .ok (.ireturn, 1) := by decide +kernel
theorem d_law_law_292 : decode code 292 = .ok (.aload_n 1, 1) := by decide +kernel
theorem d_law_law_293 : decode code 293 = .ok (.invokevirtual 33, 3) := by decide +kernel
theorem d_law_law_296 : decode code 296 = .ok (.aload_n 2, 1) := by decide +kernel
theorem d_law_law_297 : decode code 297 = .ok (.invokevirtual 37, 3) := by decide +kernel
theorem d_law_law_300 : decode code 300 = .ok (.if_icmp .eq 276, 3) := by decide +kernel
theorem d_law_law_303 : decode code 303 = .ok (.iconst 0, 1) := by decide +kernel
theorem d_law_law_304 : decode code 304 = .ok (.ireturn, 1) := by decide +kernel
theorem d_law_law_305 : decode code 305 = .ok (.aload_n 1, 1) := by decide +kernel
theorem d_law_law_306 : decode code 306 = .ok (.aload_n 0, 1) := by decide +kernel
theorem d_law_law_307 : decode code 307 = .ok (.iload_n 3, 1) := by decide +kernel
theorem d_law_law_308 : decode code 308 = .ok (.iconst 1, 1) := by decide +kernel
theorem d_law_law_309 : decode code 309 = .ok (.iadd, 1) := by decide +kernel
theorem d_law_law_310 : decode code 310 = .ok (.iaload, 1) := by decide +kernel
theorem d_law_law_311 : decode code 311 = .ok (.i2l, 1) := by decide +kernel
theorem d_law_law_312 : decode code 312 = .ok (.bipush 32, 2) := by decide +kernel
theorem d_law_law_314 : decode code 314 = .ok (.lshl, 1) := by decide +kernel
theorem d_law_law_315 : decode code 315 = .ok (.aload_n 0, 1) := by decide +kernel
theorem d_law_law_316 : decode code 316 = .ok (.iload_n 3, 1) := by decide +kernel
theorem d_law_law_317 : decode code 317 = .ok (.iconst 2, 1) := by decide +kernel
theorem d_law_law_318 : decode code 318 = .ok (.iadd, 1) := by decide +kernel
theorem d_law_law_319 : decode code 319 = .ok (.iaload, 1) := by decide +kernel
theorem d_law_law_320 : decode code 320 = .ok (.i2l, 1) := by decide +kernel
theorem d_law_law_321 : decode code 321 = .ok (.ldc2_w 38, 3) := by decide +kernel
theorem d_law_law_324 : decode code 324 = .ok (.land, 1) := by decide +kernel
theorem d_law_law_325 : decode code 325 = .ok (.lor, 1) := by decide +kernel
theorem d_law_law_326 : decode code 326 = .ok (.aload_n 0, 1) := by decide +kernel
theorem d_law_law_327 : decode code 327 = .ok (.iload_n 3, 1) := by decide +kernel
theorem d_law_law_328 : decode code 328 = .ok (.iconst 3, 1) := by decide +kernel
theorem d_law_law_329 : decode code 329 = .ok (.iadd, 1) := by decide +kernel
theorem d_law_law_330 : decode code 330 = .ok (.iaload, 1) := by decide +kernel
theorem d_law_law_331 : decode code 331 = .ok (.invokevirtual 40, 3) := by decide +kernel
theorem d_law_law_334 : decode code 334 = .ok (.aload_n 2, 1) := by decide +kernel
theorem d_law_law_335 : decode code 335 = .ok (.aload_n 0, 1) := by decide +kernel
theorem d_law_law_336 : decode code 336 = .ok (.iload_n 3, 1) := by decide +kernel
theorem d_law_law_337 : decode code 337 = .ok (.iconst 1, 1) := by decide +kernel
theorem d_law_law_338 : decode code 338 = .ok (.iadd, 1) := by decide +kernel
theorem d_law_law_339 : decode code 339 = .ok (.iaload, 1) := by decide +kernel
theorem d_law_law_340 : decode code 340 = .ok (.i2l, 1) := by decide +kernel
theorem d_law_law_341 : decode code 341 = .ok (.bipush 32, 2) := by decide +kernel
theorem d_law_law_343 : decode code 343 = .ok (.lshl, 1) := by decide +kernel
theorem d_law_law_344 : decode code 344 = .ok (.aload_n 0, 1) := by decide +kernel
theorem d_law_law_345 : decode code 345 = .ok (.iload_n 3, 1) := by decide +kernel
theorem d_law_law_346 : decode code 346 = .ok (.iconst 2, 1) := by decide +kernel
theorem d_law_law_347 : decode code 347 = .ok (.iadd, 1) := by decide +kernel
theorem d_law_law_348 : decode code 348 = .ok (.iaload, 1) := by decide +kernel
theorem d_law_law_349 : decode code 349 = .ok (.i2l, 1) := by decide +kernel
theorem d_law_law_350 : decode code 350 = .ok (.ldc2_w 38, 3) := by decide +kernel
theorem d_law_law_353 : decode code 353 = .ok (.land, 1) := by decide +kernel
theorem d_law_law_354 : decode code 354 = .ok (.lor, 1) := by decide +kernel
theorem d_law_law_355 : decode code 355 = .ok (.aload_n 0, 1) := by decide +kernel
theorem d_law_law_356 : decode code 356 = .ok (.iload_n 3, 1) := by decide +kernel
theorem d_law_law_357 : decode code 357 = .ok (.iconst 3, 1) := by decide +kernel
theorem d_law_law_358 : decode code 358 = .ok (.iadd, 1) := by decide +kernel
theorem d_law_law_359 : decode code 359 = .ok (.iaload, 1) := by decide +kernel
theorem d_law_law_360 : decode code 360 = .ok (.invokevirtual 44, 3) := by decide +kernel
theorem d_law_law_363 : decode code 363 = .ok (.if_icmp .eq 213, 3) := by decide +kernel
theorem d_law_law_366 : decode code 366 = .ok (.iconst 0, 1) := by decide +kernel
theorem d_law_law_367 : decode code 367 = .ok (.ireturn, 1) := by decide +kernel
theorem d_law_law_368 : decode code 368 = .ok (.aload_n 1, 1) := by decide +kernel
theorem d_law_law_369 : decode code 369 = .ok (.invokevirtual 45, 3) := by decide +kernel
theorem d_law_law_372 : decode code 372 = .ok (.aload_n 2, 1) := by decide +kernel
theorem d_law_law_373 : decode code 373 = .ok (.invokevirtual 48, 3) := by decide +kernel
theorem d_law_law_376 : decode code 376 = .ok (.goto 200, 3) := by decide +kernel
theorem d_law_law_379 : decode code 379 = .ok (.aload_n 1, 1) := by decide +kernel
theorem d_law_law_380 : decode code 380 = .ok (.aload_n 0, 1) := by decide +kernel
theorem d_law_law_381 : decode code 381 = .ok (.iload_n 3, 1) := by decide +kernel
theorem d_law_law_382 : decode code 382 = .ok (.iconst 1, 1) := by decide +kernel
theorem d_law_law_383 : decode code 383 = .ok (.iadd, 1) := by decide +kernel
theorem d_law_law_384 : decode code 384 = .ok (.iaload, 1) := by decide +kernel
theorem d_law_law_385 : decode code 385 = .ok (.invokevirtual 49, 3) := by decide +kernel
theorem d_law_law_388 : decode code 388 = .ok (.aload_n 2, 1) := by decide +kernel
theorem d_law_law_389 : decode code 389 = .ok (.aload_n 0, 1) := by decide +kernel
theorem d_law_law_390 : decode code 390 = .ok (.iload_n 3, 1) := by decide +kernel
theorem d_law_law_391 : decode code 391 = .ok (.iconst 1, 1) := by decide +kernel
theorem d_law_law_392 : decode code 392 = .ok (.iadd, 1) := by decide +kernel
theorem d_law_law_393 : decode code 393 = .ok (.iaload, 1) := by decide +kernel
theorem d_law_law_394 : decode code 394 = .ok (.invokevirtual 52, 3) := by decide +kernel
theorem d_law_law_397 : decode code 397 = .ok (.if_icmp .eq 179, 3) := by decide +kernel
theorem d_law_law_400 : decode code 400 = .ok (.iconst 0, 1) := by decide +kernel
theorem d_law_law_401 : decode code 401 = .ok (.ireturn, 1) := by decide +kernel
theorem d_law_law_402 : decode code 402 = .ok (.aload_n 1, 1) := by decide +kernel
theorem d_law_law_403 : decode code 403 = .ok (.aload_n 0, 1) := by decide +kernel
theorem d_law_law_404 : decode code 404 = .ok (.iload_n 3, 1) := by decide +kernel
theorem d_law_law_405 : decode code 405 = .ok (.iconst 1, 1) := by decide +kernel
theorem d_law_law_406 : decode code 406 = .ok (.iadd, 1) := by decide +kernel
theorem d_law_law_407 : decode code 407 = .ok (.iaload, 1) := by decide +kernel
theorem d_law_law_408 : decode code 408 = .ok (.aload_n 0, 1) := by decide +kernel
theorem d_law_law_409 : decode code 409 = .ok (.iload_n 3, 1) := by decide +kernel
theorem d_law_law_410 : decode code 410 = .ok (.iconst 2, 1) := by decide +kernel
theorem d_law_law_411 : decode code 411 = .ok (.iadd, 1) := by decide +kernel
theorem d_law_law_412 : decode code 412 = .ok (.iaload, 1) := by decide +kernel
theorem d_law_law_413 : decode code 413 = .ok (.invokevirtual 53, 3) := by decide +kernel
theorem d_law_law_416 : decode code 416 = .ok (.aload_n 2, 1) := by decide +kernel
theorem d_law_law_417 : decode code 417 = .ok (.aload_n 0, 1) := by decide +kernel
theorem d_law_law_418 : decode code 418 = .ok (.iload_n 3, 1) := by decide +kernel
theorem d_law_law_419 : decode code 419 = .ok (.iconst 1, 1) := by decide +kernel
theorem d_law_law_420 : decode code 420 = .ok (.iadd, 1) := by decide +kernel
theorem d_law_law_421 : decode code 421 = .ok (.iaload, 1) := by decide +kernel
theorem d_law_law_422 : decode code 422 = .ok (.aload_n 0, 1) := by decide +kernel
theorem d_law_law_423 : decode code 423 = .ok (.iload_n 3, 1) := by decide +kernel
theorem d_law_law_424 : decode code 424 = .ok (.iconst 2, 1) := by decide +kernel
theorem d_law_law_425 : decode code 425 = .ok (.iadd, 1) := by decide +kernel
theorem d_law_law_426 : decode code 426 = .ok (.iaload, 1) := by decide +kernel
theorem d_law_law_427 : decode code 427 = .ok (.invokevirtual 57, 3) := by decide +kernel
theorem d_law_law_430 : decode code 430 = .ok (.if_icmp .eq 146, 3) := by decide +kernel
theorem d_law_law_433 : decode code 433 = .ok (.iconst 0, 1) := by decide +kernel
theorem d_law_law_434 : decode code 434 = .ok (.ireturn, 1) := by decide +kernel
theorem d_law_law_435 : decode code 435 = .ok (.aload_n 1, 1) := by decide +kernel
theorem d_law_law_436 : decode code 436 = .ok (.invokevirtual 58, 3) := by decide +kernel
theorem d_law_law_439 : decode code 439 = .ok (.aload_n 2, 1) := by decide +kernel
theorem d_law_law_440 : decode code 440 = .ok (.invokevirtual 61, 3) := by decide +kernel
theorem d_law_law_443 : decode code 443 = .ok (.if_icmp .eq 133, 3) := by decide +kernel
theorem d_law_law_446 : decode code 446 = .ok (.iconst 0, 1) := by decide +kernel
theorem d_law_law_447 : decode code 447 = .ok (.ireturn, 1) := by decide +kernel
theorem d_law_law_448 : decode code 448 = .ok (.aload_n 1, 1) := by decide +kernel
theorem d_law_law_449 : decode code 449 = .ok (.aload_n 0, 1) := by decide +kernel
theorem d_law_law_450 : decode code 450 = .ok (.iload_n 3, 1) := by decide +kernel
theorem d_law_law_451 : decode code 451 = .ok (.iconst 1, 1) := by decide +kernel
theorem d_law_law_452 : decode code 452 = .ok (.iadd, 1) := by decide +kernel
theorem d_law_law_453 : decode code 453 = .ok (.iaload, 1) := by decide +kernel
theorem d_law_law_454 : decode code 454 = .ok (.aload_n 0, 1) := by decide +kernel
theorem d_law_law_455 : decode code 455 = .ok (.iload_n 3, 1) := by decide +kernel
