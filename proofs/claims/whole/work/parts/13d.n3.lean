theorem dX3_part_38 : decode cX3_part 38 = .ok (.istore 6, 2) := by decide +kernel
theorem dX3_part_40 : decode cX3_part 40 = .ok (.iload 6, 2) := by decide +kernel
theorem dX3_part_42 : decode cX3_part 42 = .ok (.iconst 3, 1) := by decide +kernel
theorem dX3_part_43 : decode cX3_part 43 = .ok (.if_icmp .ge 93, 3) := by decide +kernel
theorem dX3_part_46 : decode cX3_part 46 = .ok (.iload 5, 2) := by decide +kernel
theorem dX3_part_48 : decode cX3_part 48 = .ok (.ifCond .eq 79, 3) := by decide +kernel
theorem dX3_part_51 : decode cX3_part 51 = .ok (.aload_n 0, 1) := by decide +kernel
theorem dX3_part_52 : decode cX3_part 52 = .ok (.getfield 7, 3) := by decide +kernel
theorem dX3_part_55 : decode cX3_part 55 = .ok (.aload_n 0, 1) := by decide +kernel
theorem dX3_part_56 : decode cX3_part 56 = .ok (.iload 4, 2) := by decide +kernel
theorem dX3_part_58 : decode cX3_part 58 = .ok (.iload 6, 2) := by decide +kernel
theorem dX3_part_60 : decode cX3_part 60 = .ok (.invokevirtual 50, 3) := by decide +kernel
theorem dX3_part_63 : decode cX3_part 63 = .ok (.iaload, 1) := by decide +kernel
theorem dX3_part_64 : decode cX3_part 64 = .ok (.i2l, 1) := by decide +kernel
theorem dX3_part_65 : decode cX3_part 65 = .ok (.aload_n 0, 1) := by decide +kernel
theorem dX3_part_66 : decode cX3_part 66 = .ok (.getfield 13, 3) := by decide +kernel
theorem dX3_part_69 : decode cX3_part 69 = .ok (.aload_n 0, 1) := by decide +kernel
theorem dX3_part_70 : decode cX3_part 70 = .ok (.iload 4, 2) := by decide +kernel
theorem dX3_part_72 : decode cX3_part 72 = .ok (.iload 6, 2) := by decide +kernel
theorem dX3_part_74 : decode cX3_part 74 = .ok (.invokevirtual 50, 3) := by decide +kernel
theorem dX3_part_77 : decode cX3_part 77 = .ok (.iaload, 1) := by decide +kernel
theorem dX3_part_78 : decode cX3_part 78 = .ok (.i2l, 1) := by decide +kernel
theorem dX3_part_79 : decode cX3_part 79 = .ok (.aload_n 0, 1) := by decide +kernel
theorem dX3_part_80 : decode cX3_part 80 = .ok (.getfield 7, 3) := by decide +kernel
theorem dX3_part_83 : decode cX3_part 83 = .ok (.aload_n 0, 1) := by decide +kernel
theorem dX3_part_84 : decode cX3_part 84 = .ok (.iload 4, 2) := by decide +kernel
theorem dX3_part_86 : decode cX3_part 86 = .ok (.iload 6, 2) := by decide +kernel
theorem dX3_part_88 : decode cX3_part 88 = .ok (.iconst 1, 1) := by decide +kernel
theorem dX3_part_89 : decode cX3_part 89 = .ok (.iadd, 1) := by decide +kernel
theorem dX3_part_90 : decode cX3_part 90 = .ok (.invokevirtual 50, 3) := by decide +kernel
theorem dX3_part_93 : decode cX3_part 93 = .ok (.iaload, 1) := by decide +kernel
theorem dX3_part_94 : decode cX3_part 94 = .ok (.i2l, 1) := by decide +kernel
theorem dX3_part_95 : decode cX3_part 95 = .ok (.aload_n 0, 1) := by decide +kernel
theorem dX3_part_96 : decode cX3_part 96 = .ok (.getfield 13, 3) := by decide +kernel
theorem dX3_part_99 : decode cX3_part 99 = .ok (.aload_n 0, 1) := by decide +kernel
theorem dX3_part_100 : decode cX3_part 100 = .ok (.iload 4, 2) := by decide +kernel
theorem dX3_part_102 : decode cX3_part 102 = .ok (.iload 6, 2) := by decide +kernel
theorem dX3_part_104 : decode cX3_part 104 = .ok (.iconst 1, 1) := by decide +kernel
theorem dX3_part_105 : decode cX3_part 105 = .ok (.iadd, 1) := by decide +kernel
theorem dX3_part_106 : decode cX3_part 106 = .ok (.invokevirtual 50, 3) := by decide +kernel
theorem dX3_part_109 : decode cX3_part 109 = .ok (.iaload, 1) := by decide +kernel
theorem dX3_part_110 : decode cX3_part 110 = .ok (.i2l, 1) := by decide +kernel
theorem dX3_part_111 : decode cX3_part 111 = .ok (.iload_n 2, 1) := by decide +kernel
theorem dX3_part_112 : decode cX3_part 112 = .ok (.i2l, 1) := by decide +kernel
theorem dX3_part_113 : decode cX3_part 113 = .ok (.iload_n 3, 1) := by decide +kernel
theorem dX3_part_114 : decode cX3_part 114 = .ok (.i2l, 1) := by decide +kernel
theorem dX3_part_115 : decode cX3_part 115 = .ok (.invokestatic 36, 3) := by decide +kernel
theorem dX3_part_118 : decode cX3_part 118 = .ok (.lconst 0, 1) := by decide +kernel
theorem dX3_part_119 : decode cX3_part 119 = .ok (.lcmp, 1) := by decide +kernel
theorem dX3_part_120 : decode cX3_part 120 = .ok (.ifCond .le 7, 3) := by decide +kernel
theorem dX3_part_123 : decode cX3_part 123 = .ok (.iconst 1, 1) := by decide +kernel
theorem dX3_part_124 : decode cX3_part 124 = .ok (.goto 4, 3) := by decide +kernel
theorem dX3_part_127 : decode cX3_part 127 = .ok (.iconst 0, 1) := by decide +kernel
theorem dX3_part_128 : decode cX3_part 128 = .ok (.istore 5, 2) := by decide +kernel
theorem dX3_part_130 : decode cX3_part 130 = .ok (.iinc 6 1, 3) := by decide +kernel
theorem dX3_part_133 : decode cX3_part 133 = .ok (.goto (-93), 3) := by decide +kernel
theorem dX3_part_136 : decode cX3_part 136 = .ok (.aload_n 0, 1) := by decide +kernel
theorem dX3_part_137 : decode cX3_part 137 = .ok (.iload 5, 2) := by decide +kernel
theorem dX3_part_139 : decode cX3_part 139 = .ok (.ifCond .ne 7, 3) := by decide +kernel
theorem dX3_part_142 : decode cX3_part 142 = .ok (.iconst 2, 1) := by decide +kernel
theorem dX3_part_143 : decode cX3_part 143 = .ok (.goto 50, 3) := by decide +kernel
theorem dX3_part_146 : decode cX3_part 146 = .ok (.aload_n 0, 1) := by decide +kernel
theorem dX3_part_147 : decode cX3_part 147 = .ok (.iload_n 2, 1) := by decide +kernel
theorem dX3_part_148 : decode cX3_part 148 = .ok (.iload_n 3, 1) := by decide +kernel
theorem dX3_part_149 : decode cX3_part 149 = .ok (.invokevirtual 109, 3) := by decide +kernel
theorem dX3_part_152 : decode cX3_part 152 = .ok (.iconst (-1), 1) := by decide +kernel
theorem dX3_part_153 : decode cX3_part 153 = .ok (.if_icmp .ne 35, 3) := by decide +kernel
theorem dX3_part_156 : decode cX3_part 156 = .ok (.aload_n 0, 1) := by decide +kernel
theorem dX3_part_157 : decode cX3_part 157 = .ok (.getfield 40, 3) := by decide +kernel
theorem dX3_part_160 : decode cX3_part 160 = .ok (.bipush 60, 2) := by decide +kernel
theorem dX3_part_162 : decode cX3_part 162 = .ok (.if_icmp .eq 26, 3) := by decide +kernel
theorem dX3_part_165 : decode cX3_part 165 = .ok (.aload_n 0, 1) := by decide +kernel
theorem dX3_part_166 : decode cX3_part 166 = .ok (.getfield 112, 3) := by decide +kernel
theorem dX3_part_169 : decode cX3_part 169 = .ok (.iconst 2, 1) := by decide +kernel
theorem dX3_part_170 : decode cX3_part 170 = .ok (.iadd, 1) := by decide +kernel
theorem dX3_part_171 : decode cX3_part 171 = .ok (.bipush 60, 2) := by decide +kernel
theorem dX3_part_173 : decode cX3_part 173 = .ok (.if_icmp .gt 15, 3) := by decide +kernel
theorem dX3_part_176 : decode cX3_part 176 = .ok (.aload_n 0, 1) := by decide +kernel
theorem dX3_part_177 : decode cX3_part 177 = .ok (.getfield 43, 3) := by decide +kernel
theorem dX3_part_180 : decode cX3_part 180 = .ok (.iconst 2, 1) := by decide +kernel
theorem dX3_part_181 : decode cX3_part 181 = .ok (.iadd, 1) := by decide +kernel
theorem dX3_part_182 : decode cX3_part 182 = .ok (.sipush 200, 3) := by decide +kernel
theorem dX3_part_185 : decode cX3_part 185 = .ok (.if_icmp .le 7, 3) := by decide +kernel
theorem dX3_part_188 : decode cX3_part 188 = .ok (.iconst 3, 1) := by decide +kernel
theorem dX3_part_189 : decode cX3_part 189 = .ok (.goto 4, 3) := by decide +kernel
theorem dX3_part_192 : decode cX3_part 192 = .ok (.iconst 0, 1) := by decide +kernel
theorem dX3_part_193 : decode cX3_part 193 = .ok (.putfield 33, 3) := by decide +kernel
theorem dX3_part_196 : decode cX3_part 196 = .ok (.aload_n 0, 1) := by decide +kernel
theorem dX3_part_197 : decode cX3_part 197 = .ok (.getfield 33, 3) := by decide +kernel
theorem dX3_part_200 : decode cX3_part 200 = .ok (.ifCond .le 5, 3) := by decide +kernel
theorem dX3_part_203 : decode cX3_part 203 = .ok (.iconst 0, 1) := by decide +kernel
theorem dX3_part_204 : decode cX3_part 204 = .ok (.ireturn, 1) := by decide +kernel
theorem dX3_part_205 : decode cX3_part 205 = .ok (.aload_n 0, 1) := by decide +kernel
theorem dX3_part_206 : decode cX3_part 206 = .ok (.iload_n 2, 1) := by decide +kernel
theorem dX3_part_207 : decode cX3_part 207 = .ok (.iload_n 3, 1) := by decide +kernel
theorem dX3_part_208 : decode cX3_part 208 = .ok (.invokevirtual 118, 3) := by decide +kernel
theorem dX3_part_211 : decode cX3_part 211 = .ok (.istore 6, 2) := by decide +kernel
theorem dX3_part_213 : decode cX3_part 213 = .ok (.aload_n 0, 1) := by decide +kernel
theorem dX3_part_214 : decode cX3_part 214 = .ok (.iload 4, 2) := by decide +kernel
theorem dX3_part_216 : decode cX3_part 216 = .ok (.iconst 0, 1) := by decide +kernel
theorem dX3_part_217 : decode cX3_part 217 = .ok (.invokevirtual 50, 3) := by decide +kernel
theorem dX3_part_220 : decode cX3_part 220 = .ok (.istore 7, 2) := by decide +kernel
theorem dX3_part_222 : decode cX3_part 222 = .ok (.aload_n 0, 1) := by decide +kernel
theorem dX3_part_223 : decode cX3_part 223 = .ok (.iload 4, 2) := by decide +kernel
theorem dX3_part_225 : decode cX3_part 225 = .ok (.iconst 1, 1) := by decide +kernel
theorem dX3_part_226 : decode cX3_part 226 = .ok (.invokevirtual 50, 3) := by decide +kernel
theorem dX3_part_229 : decode cX3_part 229 = .ok (.istore 8, 2) := by decide +kernel
theorem dX3_part_231 : decode cX3_part 231 = .ok (.aload_n 0, 1) := by decide +kernel
theorem dX3_part_232 : decode cX3_part 232 = .ok (.iload 4, 2) := by decide +kernel
theorem dX3_part_234 : decode cX3_part 234 = .ok (.iconst 2, 1) := by decide +kernel
theorem dX3_part_235 : decode cX3_part 235 = .ok (.invokevirtual 50, 3) := by decide +kernel
theorem dX3_part_238 : decode cX3_part 238 = .ok (.istore 9, 2) := by decide +kernel
theorem dX3_part_240 : decode cX3_part 240 = .ok (.aload_n 0, 1) := by decide +kernel
theorem dX3_part_241 : decode cX3_part 241 = .ok (.iload 4, 2) := by decide +kernel
theorem dX3_part_243 : decode cX3_part 243 = .ok (.iload 7, 2) := by decide +kernel
theorem dX3_part_245 : decode cX3_part 245 = .ok (.iload 8, 2) := by decide +kernel
theorem dX3_part_247 : decode cX3_part 247 = .ok (.iload 6, 2) := by decide +kernel
theorem dX3_part_249 : decode cX3_part 249 = .ok (.invokevirtual 102, 3) := by decide +kernel
theorem dX3_part_252 : decode cX3_part 252 = .ok (.aload_n 0, 1) := by decide +kernel
theorem dX3_part_253 : decode cX3_part 253 = .ok (.iload 8, 2) := by decide +kernel
theorem dX3_part_255 : decode cX3_part 255 = .ok (.iload 9, 2) := by decide +kernel
theorem dX3_part_257 : decode cX3_part 257 = .ok (.iload 6, 2) := by decide +kernel
theorem dX3_part_259 : decode cX3_part 259 = .ok (.invokevirtual 115, 3) := by decide +kernel
theorem dX3_part_262 : decode cX3_part 262 = .ok (.istore 10, 2) := by decide +kernel
theorem dX3_part_264 : decode cX3_part 264 = .ok (.aload_n 0, 1) := by decide +kernel
theorem dX3_part_265 : decode cX3_part 265 = .ok (.iload 9, 2) := by decide +kernel
theorem dX3_part_267 : decode cX3_part 267 = .ok (.iload 7, 2) := by decide +kernel
theorem dX3_part_269 : decode cX3_part 269 = .ok (.iload 6, 2) := by decide +kernel
theorem dX3_part_271 : decode cX3_part 271 = .ok (.invokevirtual 115, 3) := by decide +kernel
theorem dX3_part_274 : decode cX3_part 274 = .ok (.istore 11, 2) := by decide +kernel
theorem dX3_part_276 : decode cX3_part 276 = .ok (.iload 6, 2) := by decide +kernel
theorem dX3_part_278 : decode cX3_part 278 = .ok (.ireturn, 1) := by decide +kernel
set_option maxRecDepth 20000 in
theorem ggX3_turn_X3_isThere : GoodIn wsX3_turn wsX3_isThere := goodIn_r _ [6, 7, 8, 9, 10, 5, 11, 42, 43, 44, 45, 46, 47, 48, 49, 50, 51, 52] (by decide +kernel) (by decide +kernel)
set_option maxRecDepth 20000 in
theorem gX3_turn_X3_isThere : GoodIn wsX3_turn (wsV RX3 81 RX3 yX3_isThere wsX3_isThere) := goodIn_app (goodIn_of _ (by decide +kernel)) ggX3_turn_X3_isThere
set_option maxRecDepth 20000 in
theorem ggX3_turn_X3_in : GoodIn wsX3_turn wsX3_in := goodIn_r _ [11] (by decide +kernel) (by decide +kernel)
set_option maxRecDepth 20000 in
theorem gX3_turn_X3_in : GoodIn wsX3_turn (va_wsS RX3 46 yX3_in wsX3_in) := goodIn_app (goodIn_of _ (by decide +kernel)) ggX3_turn_X3_in
set_option maxRecDepth 20000 in
theorem ggX3_turn_X3_turned : GoodIn wsX3_turn wsX3_turned := goodIn_r _ [15, 16, 17, 18, 5, 19, 7, 8, 20, 21, 22, 23, 24, 25, 26, 27, 28, 29, 30, 31, 32, 33, 34, 35, 36, 37, 38, 39, 40, 41, 42, 43, 44, 45, 46, 47, 48, 49, 50, 51, 52] (by decide +kernel) (by decide +kernel)
set_option maxRecDepth 20000 in
theorem gX3_turn_X3_turned : GoodIn wsX3_turn (wsV RX3 121 RX3 yX3_turned wsX3_turned) := goodIn_app (goodIn_of _ (by decide +kernel)) ggX3_turn_X3_turned
theorem dX3_turn_0 : decode cX3_turn 0 = .ok (.aload_n 0, 1) := by decide +kernel
theorem dX3_turn_1 : decode cX3_turn 1 = .ok (.aload_n 0, 1) := by decide +kernel
theorem dX3_turn_2 : decode cX3_turn 2 = .ok (.iload_n 1, 1) := by decide +kernel
theorem dX3_turn_3 : decode cX3_turn 3 = .ok (.invokevirtual 81, 3) := by decide +kernel
theorem dX3_turn_6 : decode cX3_turn 6 = .ok (.ifCond .eq 15, 3) := by decide +kernel
theorem dX3_turn_9 : decode cX3_turn 9 = .ok (.iload_n 2, 1) := by decide +kernel
theorem dX3_turn_10 : decode cX3_turn 10 = .ok (.iconst 3, 1) := by decide +kernel
theorem dX3_turn_11 : decode cX3_turn 11 = .ok (.invokestatic 46, 3) := by decide +kernel
theorem dX3_turn_14 : decode cX3_turn 14 = .ok (.ifCond .eq 7, 3) := by decide +kernel
theorem dX3_turn_17 : decode cX3_turn 17 = .ok (.iconst 0, 1) := by decide +kernel
theorem dX3_turn_18 : decode cX3_turn 18 = .ok (.goto 4, 3) := by decide +kernel
theorem dX3_turn_21 : decode cX3_turn 21 = .ok (.iconst 1, 1) := by decide +kernel
theorem dX3_turn_22 : decode cX3_turn 22 = .ok (.putfield 33, 3) := by decide +kernel
theorem dX3_turn_25 : decode cX3_turn 25 = .ok (.aload_n 0, 1) := by decide +kernel
theorem dX3_turn_26 : decode cX3_turn 26 = .ok (.getfield 33, 3) := by decide +kernel
theorem dX3_turn_29 : decode cX3_turn 29 = .ok (.ifCond .ne 16, 3) := by decide +kernel
theorem dX3_turn_32 : decode cX3_turn 32 = .ok (.aload_n 0, 1) := by decide +kernel
theorem dX3_turn_33 : decode cX3_turn 33 = .ok (.iload_n 1, 1) := by decide +kernel
theorem dX3_turn_34 : decode cX3_turn 34 = .ok (.iload_n 2, 1) := by decide +kernel
theorem dX3_turn_35 : decode cX3_turn 35 = .ok (.invokevirtual 121, 3) := by decide +kernel
theorem dX3_turn_38 : decode cX3_turn 38 = .ok (.ifCond .eq 7, 3) := by decide +kernel
theorem dX3_turn_41 : decode cX3_turn 41 = .ok (.iconst 1, 1) := by decide +kernel
theorem dX3_turn_42 : decode cX3_turn 42 = .ok (.goto 4, 3) := by decide +kernel
theorem dX3_turn_45 : decode cX3_turn 45 = .ok (.iconst 0, 1) := by decide +kernel
theorem dX3_turn_46 : decode cX3_turn 46 = .ok (.ireturn, 1) := by decide +kernel
set_option maxRecDepth 20000 in
theorem ggX3_improves_X3_good : GoodIn wsX3_improves wsX3_good := goodIn_r _ [7, 8, 9, 10, 11, 12, 6, 13, 1, 2, 14, 15, 16, 17, 18, 19, 20, 21, 22, 23, 24, 25, 41, 42, 43, 44, 45, 46, 47, 48, 49, 50, 51] (by decide +kernel) (by decide +kernel)
set_option maxRecDepth 20000 in
theorem gX3_improves_X3_good : GoodIn wsX3_improves (wsV RX3 124 RX3 yX3_good wsX3_good) := goodIn_app (goodIn_of _ (by decide +kernel)) ggX3_improves_X3_good
set_option maxRecDepth 20000 in
theorem ggX3_improves_X3_turned : GoodIn wsX3_improves wsX3_turned := goodIn_r _ [29, 10, 11, 12, 6, 13, 1, 2, 14, 15, 16, 17, 18, 19, 20, 21, 22, 30, 31, 32, 33, 8, 9, 34, 35, 36, 37, 38, 39, 40, 41, 42, 43, 44, 45, 46, 47, 48, 49, 50, 51] (by decide +kernel) (by decide +kernel)
set_option maxRecDepth 20000 in
theorem gX3_improves_X3_turned : GoodIn wsX3_improves (wsV RX3 121 RX3 yX3_turned wsX3_turned) := goodIn_app (goodIn_of _ (by decide +kernel)) ggX3_improves_X3_turned
theorem dX3_improves_0 : decode cX3_improves 0 = .ok (.iconst 0, 1) := by decide +kernel
theorem dX3_improves_1 : decode cX3_improves 1 = .ok (.istore_n 1, 1) := by decide +kernel
theorem dX3_improves_2 : decode cX3_improves 2 = .ok (.iload_n 1, 1) := by decide +kernel
theorem dX3_improves_3 : decode cX3_improves 3 = .ok (.aload_n 0, 1) := by decide +kernel
theorem dX3_improves_4 : decode cX3_improves 4 = .ok (.getfield 43, 3) := by decide +kernel
theorem dX3_improves_7 : decode cX3_improves 7 = .ok (.if_icmp .ge 54, 3) := by decide +kernel
theorem dX3_improves_10 : decode cX3_improves 10 = .ok (.aload_n 0, 1) := by decide +kernel
theorem dX3_improves_11 : decode cX3_improves 11 = .ok (.getfield 16, 3) := by decide +kernel
theorem dX3_improves_14 : decode cX3_improves 14 = .ok (.iload_n 1, 1) := by decide +kernel
theorem dX3_improves_15 : decode cX3_improves 15 = .ok (.baload, 1) := by decide +kernel
theorem dX3_improves_16 : decode cX3_improves 16 = .ok (.ifCond .ne 6, 3) := by decide +kernel
theorem dX3_improves_19 : decode cX3_improves 19 = .ok (.goto 36, 3) := by decide +kernel
theorem dX3_improves_22 : decode cX3_improves 22 = .ok (.iconst 0, 1) := by decide +kernel
theorem dX3_improves_23 : decode cX3_improves 23 = .ok (.istore_n 2, 1) := by decide +kernel
theorem dX3_improves_24 : decode cX3_improves 24 = .ok (.iload_n 2, 1) := by decide +kernel
theorem dX3_improves_25 : decode cX3_improves 25 = .ok (.iconst 3, 1) := by decide +kernel
theorem dX3_improves_26 : decode cX3_improves 26 = .ok (.if_icmp .ge 29, 3) := by decide +kernel
theorem dX3_improves_29 : decode cX3_improves 29 = .ok (.aload_n 0, 1) := by decide +kernel
theorem dX3_improves_30 : decode cX3_improves 30 = .ok (.iload_n 1, 1) := by decide +kernel
theorem dX3_improves_31 : decode cX3_improves 31 = .ok (.iload_n 2, 1) := by decide +kernel
theorem dX3_improves_32 : decode cX3_improves 32 = .ok (.invokevirtual 124, 3) := by decide +kernel
theorem dX3_improves_35 : decode cX3_improves 35 = .ok (.ifCond .ne 14, 3) := by decide +kernel
theorem dX3_improves_38 : decode cX3_improves 38 = .ok (.aload_n 0, 1) := by decide +kernel
theorem dX3_improves_39 : decode cX3_improves 39 = .ok (.iload_n 1, 1) := by decide +kernel
theorem dX3_improves_40 : decode cX3_improves 40 = .ok (.iload_n 2, 1) := by decide +kernel
theorem dX3_improves_41 : decode cX3_improves 41 = .ok (.invokevirtual 121, 3) := by decide +kernel
theorem dX3_improves_44 : decode cX3_improves 44 = .ok (.ifCond .eq 5, 3) := by decide +kernel
theorem dX3_improves_47 : decode cX3_improves 47 = .ok (.iconst 1, 1) := by decide +kernel
theorem dX3_improves_48 : decode cX3_improves 48 = .ok (.ireturn, 1) := by decide +kernel
theorem dX3_improves_49 : decode cX3_improves 49 = .ok (.iinc 2 1, 3) := by decide +kernel
theorem dX3_improves_52 : decode cX3_improves 52 = .ok (.goto (-28), 3) := by decide +kernel
theorem dX3_improves_55 : decode cX3_improves 55 = .ok (.iinc 1 1, 3) := by decide +kernel
theorem dX3_improves_58 : decode cX3_improves 58 = .ok (.goto (-56), 3) := by decide +kernel
theorem dX3_improves_61 : decode cX3_improves 61 = .ok (.iconst 0, 1) := by decide +kernel
theorem dX3_improves_62 : decode cX3_improves 62 = .ok (.ireturn, 1) := by decide +kernel
set_option maxRecDepth 20000 in
theorem ggX3_improve_X3_in : GoodIn wsX3_improve wsX3_in := goodIn_r _ [5] (by decide +kernel) (by decide +kernel)
set_option maxRecDepth 20000 in
theorem gX3_improve_X3_in : GoodIn wsX3_improve (va_wsS RX3 46 yX3_in wsX3_in) := goodIn_app (goodIn_of _ (by decide +kernel)) ggX3_improve_X3_in
set_option maxRecDepth 20000 in
theorem ggX3_improve_X3_improves : GoodIn wsX3_improve wsX3_improves := goodIn_r _ [9, 10, 11, 12, 13, 14, 4, 15, 16, 17, 18, 19, 20, 21, 22, 23, 24, 25, 26, 27, 28, 29, 30, 31, 32, 33, 34, 35, 36, 37, 38, 39, 40, 41, 42, 43, 44, 45, 46, 47, 48, 49, 50, 51, 52, 53, 54, 55, 56, 57, 58, 59] (by decide +kernel) (by decide +kernel)
set_option maxRecDepth 20000 in
theorem gX3_improve_X3_improves : GoodIn wsX3_improve (wsV RX3 127 RX3 yX3_improves wsX3_improves) := goodIn_app (goodIn_of _ (by decide +kernel)) ggX3_improve_X3_improves
theorem dX3_improve_0 : decode cX3_improve 0 = .ok (.aload_n 0, 1) := by decide +kernel
theorem dX3_improve_1 : decode cX3_improve 1 = .ok (.iload_n 1, 1) := by decide +kernel
theorem dX3_improve_2 : decode cX3_improve 2 = .ok (.sipush 501, 3) := by decide +kernel
theorem dX3_improve_5 : decode cX3_improve 5 = .ok (.invokestatic 46, 3) := by decide +kernel
theorem dX3_improve_8 : decode cX3_improve 8 = .ok (.ifCond .eq 7, 3) := by decide +kernel
theorem dX3_improve_11 : decode cX3_improve 11 = .ok (.iconst 0, 1) := by decide +kernel
theorem dX3_improve_12 : decode cX3_improve 12 = .ok (.goto 4, 3) := by decide +kernel
theorem dX3_improve_15 : decode cX3_improve 15 = .ok (.iconst 1, 1) := by decide +kernel
theorem dX3_improve_16 : decode cX3_improve 16 = .ok (.putfield 33, 3) := by decide +kernel
theorem dX3_improve_19 : decode cX3_improve 19 = .ok (.iconst 0, 1) := by decide +kernel
theorem dX3_improve_20 : decode cX3_improve 20 = .ok (.istore_n 2, 1) := by decide +kernel
theorem dX3_improve_21 : decode cX3_improve 21 = .ok (.aload_n 0, 1) := by decide +kernel
theorem dX3_improve_22 : decode cX3_improve 22 = .ok (.getfield 33, 3) := by decide +kernel
theorem dX3_improve_25 : decode cX3_improve 25 = .ok (.ifCond .ne 21, 3) := by decide +kernel
theorem dX3_improve_28 : decode cX3_improve 28 = .ok (.iload_n 2, 1) := by decide +kernel
theorem dX3_improve_29 : decode cX3_improve 29 = .ok (.iload_n 1, 1) := by decide +kernel
theorem dX3_improve_30 : decode cX3_improve 30 = .ok (.if_icmp .ge 16, 3) := by decide +kernel
theorem dX3_improve_33 : decode cX3_improve 33 = .ok (.aload_n 0, 1) := by decide +kernel
theorem dX3_improve_34 : decode cX3_improve 34 = .ok (.invokevirtual 127, 3) := by decide +kernel
theorem dX3_improve_37 : decode cX3_improve 37 = .ok (.ifCond .eq 9, 3) := by decide +kernel
theorem dX3_improve_40 : decode cX3_improve 40 = .ok (.iinc 2 1, 3) := by decide +kernel
theorem dX3_improve_43 : decode cX3_improve 43 = .ok (.goto (-22), 3) := by decide +kernel
theorem dX3_improve_46 : decode cX3_improve 46 = .ok (.iload_n 2, 1) := by decide +kernel
theorem dX3_improve_47 : decode cX3_improve 47 = .ok (.ireturn, 1) := by decide +kernel
theorem dX3_blame_0 : decode cX3_blame 0 = .ok (.aload_n 0, 1) := by decide +kernel
theorem dX3_blame_1 : decode cX3_blame 1 = .ok (.iload_n 2, 1) := by decide +kernel
theorem dX3_blame_2 : decode cX3_blame 2 = .ok (.putfield 23, 3) := by decide +kernel
theorem dX3_blame_5 : decode cX3_blame 5 = .ok (.aload_n 0, 1) := by decide +kernel
theorem dX3_blame_6 : decode cX3_blame 6 = .ok (.iload_n 3, 1) := by decide +kernel
theorem dX3_blame_7 : decode cX3_blame 7 = .ok (.putfield 27, 3) := by decide +kernel
theorem dX3_blame_10 : decode cX3_blame 10 = .ok (.iload_n 1, 1) := by decide +kernel
theorem dX3_blame_11 : decode cX3_blame 11 = .ok (.ireturn, 1) := by decide +kernel
set_option maxRecDepth 20000 in
theorem ggX3_fault_X3_isRight : GoodIn wsX3_fault wsX3_isRight := goodIn_r _ [8, 9, 10, 11, 7, 12, 13, 14, 15, 16, 17, 18, 19, 20, 21, 22, 23, 24, 25, 26, 56, 57, 58, 59, 60, 61, 62, 63, 64, 65, 66] (by decide +kernel) (by decide +kernel)
set_option maxRecDepth 20000 in
theorem gX3_fault_X3_isRight : GoodIn wsX3_fault (wsV RX3 85 RX3 yX3_isRight wsX3_isRight) := goodIn_app (goodIn_of _ (by decide +kernel)) ggX3_fault_X3_isRight
set_option maxRecDepth 20000 in
theorem ggX3_fault_X3_blame : GoodIn wsX3_fault wsX3_blame := goodIn_r _ [30, 31, 32, 56, 57, 58, 59, 60, 61, 62, 63, 64, 65, 66] (by decide +kernel) (by decide +kernel)
set_option maxRecDepth 20000 in
theorem gX3_fault_X3_blame : GoodIn wsX3_fault (wsV RX3 131 RX3 yX3_blame wsX3_blame) := goodIn_app (goodIn_of _ (by decide +kernel)) ggX3_fault_X3_blame
set_option maxRecDepth 20000 in
theorem ggX3_fault_X3_isTidy : GoodIn wsX3_fault wsX3_isTidy := goodIn_r _ [36, 22, 23, 13, 14, 15, 7, 16, 17, 37, 38, 39, 40, 41, 42, 43, 44, 24, 25, 26, 45, 46, 47, 48, 49, 50, 51, 52, 18, 19, 20, 21, 53, 54, 55, 56, 57, 58, 59, 60, 61, 62, 63, 64, 65, 66] (by decide +kernel) (by decide +kernel)
set_option maxRecDepth 20000 in
theorem gX3_fault_X3_isTidy : GoodIn wsX3_fault (wsV RX3 134 RX3 yX3_isTidy wsX3_isTidy) := goodIn_app (goodIn_of _ (by decide +kernel)) ggX3_fault_X3_isTidy
theorem dX3_fault_0 : decode cX3_fault 0 = .ok (.aload_n 0, 1) := by decide +kernel
theorem dX3_fault_1 : decode cX3_fault 1 = .ok (.iconst 0, 1) := by decide +kernel
theorem dX3_fault_2 : decode cX3_fault 2 = .ok (.putfield 33, 3) := by decide +kernel
theorem dX3_fault_5 : decode cX3_fault 5 = .ok (.iconst 0, 1) := by decide +kernel
theorem dX3_fault_6 : decode cX3_fault 6 = .ok (.istore_n 1, 1) := by decide +kernel
theorem dX3_fault_7 : decode cX3_fault 7 = .ok (.iload_n 1, 1) := by decide +kernel
theorem dX3_fault_8 : decode cX3_fault 8 = .ok (.aload_n 0, 1) := by decide +kernel
theorem dX3_fault_9 : decode cX3_fault 9 = .ok (.getfield 43, 3) := by decide +kernel
theorem dX3_fault_12 : decode cX3_fault 12 = .ok (.if_icmp .ge 76, 3) := by decide +kernel
theorem dX3_fault_15 : decode cX3_fault 15 = .ok (.aload_n 0, 1) := by decide +kernel
theorem dX3_fault_16 : decode cX3_fault 16 = .ok (.getfield 16, 3) := by decide +kernel
theorem dX3_fault_19 : decode cX3_fault 19 = .ok (.iload_n 1, 1) := by decide +kernel
theorem dX3_fault_20 : decode cX3_fault 20 = .ok (.baload, 1) := by decide +kernel
theorem dX3_fault_21 : decode cX3_fault 21 = .ok (.ifCond .ne 6, 3) := by decide +kernel
theorem dX3_fault_24 : decode cX3_fault 24 = .ok (.goto 58, 3) := by decide +kernel
theorem dX3_fault_27 : decode cX3_fault 27 = .ok (.aload_n 0, 1) := by decide +kernel
theorem dX3_fault_28 : decode cX3_fault 28 = .ok (.iload_n 1, 1) := by decide +kernel
theorem dX3_fault_29 : decode cX3_fault 29 = .ok (.invokevirtual 85, 3) := by decide +kernel
theorem dX3_fault_32 : decode cX3_fault 32 = .ok (.ifCond .ne 11, 3) := by decide +kernel
theorem dX3_fault_35 : decode cX3_fault 35 = .ok (.aload_n 0, 1) := by decide +kernel
theorem dX3_fault_36 : decode cX3_fault 36 = .ok (.iconst 1, 1) := by decide +kernel
theorem dX3_fault_37 : decode cX3_fault 37 = .ok (.iload_n 1, 1) := by decide +kernel
theorem dX3_fault_38 : decode cX3_fault 38 = .ok (.iconst (-1), 1) := by decide +kernel
theorem dX3_fault_39 : decode cX3_fault 39 = .ok (.invokevirtual 131, 3) := by decide +kernel
theorem dX3_fault_42 : decode cX3_fault 42 = .ok (.ireturn, 1) := by decide +kernel
theorem dX3_fault_43 : decode cX3_fault 43 = .ok (.iconst 0, 1) := by decide +kernel
theorem dX3_fault_44 : decode cX3_fault 44 = .ok (.istore_n 2, 1) := by decide +kernel
theorem dX3_fault_45 : decode cX3_fault 45 = .ok (.iload_n 2, 1) := by decide +kernel
theorem dX3_fault_46 : decode cX3_fault 46 = .ok (.iload_n 1, 1) := by decide +kernel
theorem dX3_fault_47 : decode cX3_fault 47 = .ok (.if_icmp .ge 35, 3) := by decide +kernel
theorem dX3_fault_50 : decode cX3_fault 50 = .ok (.aload_n 0, 1) := by decide +kernel
theorem dX3_fault_51 : decode cX3_fault 51 = .ok (.getfield 16, 3) := by decide +kernel
theorem dX3_fault_54 : decode cX3_fault 54 = .ok (.iload_n 2, 1) := by decide +kernel
theorem dX3_fault_55 : decode cX3_fault 55 = .ok (.baload, 1) := by decide +kernel
theorem dX3_fault_56 : decode cX3_fault 56 = .ok (.ifCond .eq 20, 3) := by decide +kernel
theorem dX3_fault_59 : decode cX3_fault 59 = .ok (.aload_n 0, 1) := by decide +kernel
theorem dX3_fault_60 : decode cX3_fault 60 = .ok (.iload_n 1, 1) := by decide +kernel
theorem dX3_fault_61 : decode cX3_fault 61 = .ok (.iload_n 2, 1) := by decide +kernel
theorem dX3_fault_62 : decode cX3_fault 62 = .ok (.invokevirtual 134, 3) := by decide +kernel
theorem dX3_fault_65 : decode cX3_fault 65 = .ok (.ifCond .ne 11, 3) := by decide +kernel
theorem dX3_fault_68 : decode cX3_fault 68 = .ok (.aload_n 0, 1) := by decide +kernel
theorem dX3_fault_69 : decode cX3_fault 69 = .ok (.iconst 2, 1) := by decide +kernel
theorem dX3_fault_70 : decode cX3_fault 70 = .ok (.iload_n 1, 1) := by decide +kernel
theorem dX3_fault_71 : decode cX3_fault 71 = .ok (.iload_n 2, 1) := by decide +kernel
theorem dX3_fault_72 : decode cX3_fault 72 = .ok (.invokevirtual 131, 3) := by decide +kernel
theorem dX3_fault_75 : decode cX3_fault 75 = .ok (.ireturn, 1) := by decide +kernel
theorem dX3_fault_76 : decode cX3_fault 76 = .ok (.iinc 2 1, 3) := by decide +kernel
theorem dX3_fault_79 : decode cX3_fault 79 = .ok (.goto (-34), 3) := by decide +kernel
theorem dX3_fault_82 : decode cX3_fault 82 = .ok (.iinc 1 1, 3) := by decide +kernel
theorem dX3_fault_85 : decode cX3_fault 85 = .ok (.goto (-78), 3) := by decide +kernel
theorem dX3_fault_88 : decode cX3_fault 88 = .ok (.iconst 0, 1) := by decide +kernel
theorem dX3_fault_89 : decode cX3_fault 89 = .ok (.ireturn, 1) := by decide +kernel
theorem dX3_culprit_0 : decode cX3_culprit 0 = .ok (.aload_n 0, 1) := by decide +kernel
theorem dX3_culprit_1 : decode cX3_culprit 1 = .ok (.iconst 0, 1) := by decide +kernel
theorem dX3_culprit_2 : decode cX3_culprit 2 = .ok (.putfield 33, 3) := by decide +kernel
theorem dX3_culprit_5 : decode cX3_culprit 5 = .ok (.iload_n 1, 1) := by decide +kernel
theorem dX3_culprit_6 : decode cX3_culprit 6 = .ok (.ifCond .ne 10, 3) := by decide +kernel
theorem dX3_culprit_9 : decode cX3_culprit 9 = .ok (.aload_n 0, 1) := by decide +kernel
theorem dX3_culprit_10 : decode cX3_culprit 10 = .ok (.getfield 23, 3) := by decide +kernel
theorem dX3_culprit_13 : decode cX3_culprit 13 = .ok (.goto 16, 3) := by decide +kernel
theorem dX3_culprit_16 : decode cX3_culprit 16 = .ok (.iload_n 1, 1) := by decide +kernel
theorem dX3_culprit_17 : decode cX3_culprit 17 = .ok (.iconst 1, 1) := by decide +kernel
theorem dX3_culprit_18 : decode cX3_culprit 18 = .ok (.if_icmp .ne 10, 3) := by decide +kernel
theorem dX3_culprit_21 : decode cX3_culprit 21 = .ok (.aload_n 0, 1) := by decide +kernel
theorem dX3_culprit_22 : decode cX3_culprit 22 = .ok (.getfield 27, 3) := by decide +kernel
theorem dX3_culprit_25 : decode cX3_culprit 25 = .ok (.goto 4, 3) := by decide +kernel
theorem dX3_culprit_28 : decode cX3_culprit 28 = .ok (.iconst (-1), 1) := by decide +kernel
theorem dX3_culprit_29 : decode cX3_culprit 29 = .ok (.ireturn, 1) := by decide +kernel
set_option maxRecDepth 20000 in
theorem ggX3_covers_X3_in : GoodIn wsX3_covers wsX3_in := goodIn_r _ [5] (by decide +kernel) (by decide +kernel)
set_option maxRecDepth 20000 in
theorem gX3_covers_X3_in : GoodIn wsX3_covers (va_wsS RX3 46 yX3_in wsX3_in) := goodIn_app (goodIn_of _ (by decide +kernel)) ggX3_covers_X3_in
set_option maxRecDepth 20000 in
theorem ggX3_covers_X3_howMany : GoodIn wsX3_covers wsX3_howMany := goodIn_r _ [9, 10, 11, 12, 13, 4, 14, 15, 16, 17, 18, 19, 20, 21, 2, 3, 5, 22, 23, 24, 25, 26, 27, 28, 29, 30, 31, 32, 33, 34, 35, 36, 37, 38, 39, 40, 41, 42, 43, 44, 45, 46, 47, 48, 49, 50, 51, 52] (by decide +kernel) (by decide +kernel)
set_option maxRecDepth 20000 in
theorem gX3_covers_X3_howMany : GoodIn wsX3_covers (wsV RX3 137 RX3 yX3_howMany wsX3_howMany) := goodIn_app (goodIn_of _ (by decide +kernel)) ggX3_covers_X3_howMany
theorem dX3_covers_0 : decode cX3_covers 0 = .ok (.aload_n 0, 1) := by decide +kernel
theorem dX3_covers_1 : decode cX3_covers 1 = .ok (.iconst 0, 1) := by decide +kernel
theorem dX3_covers_2 : decode cX3_covers 2 = .ok (.putfield 33, 3) := by decide +kernel
theorem dX3_covers_5 : decode cX3_covers 5 = .ok (.iload_n 1, 1) := by decide +kernel
theorem dX3_covers_6 : decode cX3_covers 6 = .ok (.bipush 32, 2) := by decide +kernel
theorem dX3_covers_8 : decode cX3_covers 8 = .ok (.invokestatic 46, 3) := by decide +kernel
theorem dX3_covers_11 : decode cX3_covers 11 = .ok (.ifCond .eq 21, 3) := by decide +kernel
theorem dX3_covers_14 : decode cX3_covers 14 = .ok (.iload_n 2, 1) := by decide +kernel
theorem dX3_covers_15 : decode cX3_covers 15 = .ok (.bipush 32, 2) := by decide +kernel
theorem dX3_covers_17 : decode cX3_covers 17 = .ok (.invokestatic 46, 3) := by decide +kernel
theorem dX3_covers_20 : decode cX3_covers 20 = .ok (.ifCond .eq 12, 3) := by decide +kernel
theorem dX3_covers_23 : decode cX3_covers 23 = .ok (.aload_n 0, 1) := by decide +kernel
theorem dX3_covers_24 : decode cX3_covers 24 = .ok (.iload_n 1, 1) := by decide +kernel
theorem dX3_covers_25 : decode cX3_covers 25 = .ok (.iload_n 2, 1) := by decide +kernel
theorem dX3_covers_26 : decode cX3_covers 26 = .ok (.invokevirtual 137, 3) := by decide +kernel
theorem dX3_covers_29 : decode cX3_covers 29 = .ok (.goto 4, 3) := by decide +kernel
theorem dX3_covers_32 : decode cX3_covers 32 = .ok (.iconst 0, 1) := by decide +kernel
theorem dX3_covers_33 : decode cX3_covers 33 = .ok (.ireturn, 1) := by decide +kernel
set_option maxRecDepth 20000 in
theorem ggX3_who_X3_in : GoodIn wsX3_who wsX3_in := goodIn_r _ [6] (by decide +kernel) (by decide +kernel)
set_option maxRecDepth 20000 in
theorem gX3_who_X3_in : GoodIn wsX3_who (va_wsS RX3 46 yX3_in wsX3_in) := goodIn_app (goodIn_of _ (by decide +kernel)) ggX3_who_X3_in
set_option maxRecDepth 20000 in
theorem ggX3_who_X3_isCovered : GoodIn wsX3_who wsX3_isCovered := goodIn_r _ [10, 11, 12, 13, 14, 15, 5, 16, 2, 17, 3, 4, 6, 18, 19, 20, 21, 22, 23, 24, 25, 26, 27, 28, 29, 30, 31, 32, 33, 34, 35, 36, 37, 38, 39, 40, 41, 42, 43, 44, 45, 46, 47, 48] (by decide +kernel) (by decide +kernel)
set_option maxRecDepth 20000 in
theorem gX3_who_X3_isCovered : GoodIn wsX3_who (wsV RX3 88 RX3 yX3_isCovered wsX3_isCovered) := goodIn_app (goodIn_of _ (by decide +kernel)) ggX3_who_X3_isCovered
theorem dX3_who_0 : decode cX3_who 0 = .ok (.aload_n 0, 1) := by decide +kernel
theorem dX3_who_1 : decode cX3_who 1 = .ok (.iconst 0, 1) := by decide +kernel
theorem dX3_who_2 : decode cX3_who 2 = .ok (.putfield 33, 3) := by decide +kernel
theorem dX3_who_5 : decode cX3_who 5 = .ok (.iload_n 1, 1) := by decide +kernel
theorem dX3_who_6 : decode cX3_who 6 = .ok (.bipush 32, 2) := by decide +kernel
theorem dX3_who_8 : decode cX3_who 8 = .ok (.invokestatic 46, 3) := by decide +kernel
theorem dX3_who_11 : decode cX3_who 11 = .ok (.ifCond .eq 12, 3) := by decide +kernel
theorem dX3_who_14 : decode cX3_who 14 = .ok (.iload_n 2, 1) := by decide +kernel
theorem dX3_who_15 : decode cX3_who 15 = .ok (.bipush 32, 2) := by decide +kernel
theorem dX3_who_17 : decode cX3_who 17 = .ok (.invokestatic 46, 3) := by decide +kernel
theorem dX3_who_20 : decode cX3_who 20 = .ok (.ifCond .ne 5, 3) := by decide +kernel
theorem dX3_who_23 : decode cX3_who 23 = .ok (.iconst (-1), 1) := by decide +kernel
theorem dX3_who_24 : decode cX3_who 24 = .ok (.ireturn, 1) := by decide +kernel
theorem dX3_who_25 : decode cX3_who 25 = .ok (.iconst 0, 1) := by decide +kernel
theorem dX3_who_26 : decode cX3_who 26 = .ok (.istore_n 3, 1) := by decide +kernel
theorem dX3_who_27 : decode cX3_who 27 = .ok (.iload_n 3, 1) := by decide +kernel
theorem dX3_who_28 : decode cX3_who 28 = .ok (.aload_n 0, 1) := by decide +kernel
theorem dX3_who_29 : decode cX3_who 29 = .ok (.getfield 43, 3) := by decide +kernel
theorem dX3_who_32 : decode cX3_who 32 = .ok (.if_icmp .ge 33, 3) := by decide +kernel
theorem dX3_who_35 : decode cX3_who 35 = .ok (.aload_n 0, 1) := by decide +kernel
theorem dX3_who_36 : decode cX3_who 36 = .ok (.iload_n 3, 1) := by decide +kernel
theorem dX3_who_37 : decode cX3_who 37 = .ok (.bipush 16, 2) := by decide +kernel
theorem dX3_who_39 : decode cX3_who 39 = .ok (.iload_n 1, 1) := by decide +kernel
theorem dX3_who_40 : decode cX3_who 40 = .ok (.imul, 1) := by decide +kernel
theorem dX3_who_41 : decode cX3_who 41 = .ok (.bipush 8, 2) := by decide +kernel
theorem dX3_who_43 : decode cX3_who 43 = .ok (.iadd, 1) := by decide +kernel
theorem dX3_who_44 : decode cX3_who 44 = .ok (.bipush 16, 2) := by decide +kernel
theorem dX3_who_46 : decode cX3_who 46 = .ok (.iload_n 2, 1) := by decide +kernel
theorem dX3_who_47 : decode cX3_who 47 = .ok (.imul, 1) := by decide +kernel
theorem dX3_who_48 : decode cX3_who 48 = .ok (.bipush 8, 2) := by decide +kernel
theorem dX3_who_50 : decode cX3_who 50 = .ok (.iadd, 1) := by decide +kernel
theorem dX3_who_51 : decode cX3_who 51 = .ok (.invokevirtual 88, 3) := by decide +kernel
theorem dX3_who_54 : decode cX3_who 54 = .ok (.ifCond .eq 5, 3) := by decide +kernel
theorem dX3_who_57 : decode cX3_who 57 = .ok (.iload_n 3, 1) := by decide +kernel
theorem dX3_who_58 : decode cX3_who 58 = .ok (.ireturn, 1) := by decide +kernel
theorem dX3_who_59 : decode cX3_who 59 = .ok (.iinc 3 1, 3) := by decide +kernel
theorem dX3_who_62 : decode cX3_who 62 = .ok (.goto (-35), 3) := by decide +kernel
theorem dX3_who_65 : decode cX3_who 65 = .ok (.iconst (-1), 1) := by decide +kernel
theorem dX3_who_66 : decode cX3_who 66 = .ok (.ireturn, 1) := by decide +kernel
set_option maxRecDepth 20000 in
theorem ggX3_painted_X3_isRight : GoodIn wsX3_painted wsX3_isRight := goodIn_r _ [9, 10, 11, 12, 8, 13, 14, 15, 16, 17, 18, 19, 20, 21, 22, 23, 24, 25, 26, 27, 43, 44, 45, 46, 47, 48, 49, 50, 51, 52, 53] (by decide +kernel) (by decide +kernel)
set_option maxRecDepth 20000 in
theorem gX3_painted_X3_isRight : GoodIn wsX3_painted (wsV RX3 85 RX3 yX3_isRight wsX3_isRight) := goodIn_app (goodIn_of _ (by decide +kernel)) ggX3_painted_X3_isRight
set_option maxRecDepth 20000 in
theorem ggX3_painted_X3_twice : GoodIn wsX3_painted wsX3_twice := goodIn_r _ [13, 14, 15, 16, 8, 17, 18, 19, 20, 21, 22, 23, 24, 25, 26, 27, 43, 44, 45, 46, 47, 48, 49, 50, 51, 52, 53] (by decide +kernel) (by decide +kernel)
set_option maxRecDepth 20000 in
theorem gX3_painted_X3_twice : GoodIn wsX3_painted (wsV RX3 58 RX3 yX3_twice wsX3_twice) := goodIn_app (goodIn_of _ (by decide +kernel)) ggX3_painted_X3_twice
set_option maxRecDepth 20000 in
theorem ggX3_painted_X3_howMany : GoodIn wsX3_painted wsX3_howMany := goodIn_r _ [31, 3, 32, 33, 34, 8, 35, 23, 24, 36, 37, 38, 39, 4, 40, 41, 42, 5, 6, 7, 9, 10, 11, 12, 13, 14, 15, 16, 17, 18, 19, 20, 21, 22, 25, 26, 27, 43, 44, 45, 46, 47, 48, 49, 50, 51, 52, 53] (by decide +kernel) (by decide +kernel)
set_option maxRecDepth 20000 in
theorem gX3_painted_X3_howMany : GoodIn wsX3_painted (wsV RX3 137 RX3 yX3_howMany wsX3_howMany) := goodIn_app (goodIn_of _ (by decide +kernel)) ggX3_painted_X3_howMany
theorem dX3_painted_0 : decode cX3_painted 0 = .ok (.aload_n 0, 1) := by decide +kernel
theorem dX3_painted_1 : decode cX3_painted 1 = .ok (.iconst 0, 1) := by decide +kernel
theorem dX3_painted_2 : decode cX3_painted 2 = .ok (.putfield 33, 3) := by decide +kernel
theorem dX3_painted_5 : decode cX3_painted 5 = .ok (.iload_n 1, 1) := by decide +kernel
theorem dX3_painted_6 : decode cX3_painted 6 = .ok (.ifCond .lt 8, 3) := by decide +kernel
theorem dX3_painted_9 : decode cX3_painted 9 = .ok (.iload_n 1, 1) := by decide +kernel
theorem dX3_painted_10 : decode cX3_painted 10 = .ok (.iconst 3, 1) := by decide +kernel
theorem dX3_painted_11 : decode cX3_painted 11 = .ok (.if_icmp .le 7, 3) := by decide +kernel
theorem dX3_painted_14 : decode cX3_painted 14 = .ok (.ldc2_w 140, 3) := by decide +kernel
theorem dX3_painted_17 : decode cX3_painted 17 = .ok (.lreturn, 1) := by decide +kernel
theorem dX3_painted_18 : decode cX3_painted 18 = .ok (.lconst 0, 1) := by decide +kernel
theorem dX3_painted_19 : decode cX3_painted 19 = .ok (.lstore_n 2, 1) := by decide +kernel
theorem dX3_painted_20 : decode cX3_painted 20 = .ok (.iconst 0, 1) := by decide +kernel
theorem dX3_painted_21 : decode cX3_painted 21 = .ok (.istore 4, 2) := by decide +kernel
theorem dX3_painted_23 : decode cX3_painted 23 = .ok (.iload 4, 2) := by decide +kernel
theorem dX3_painted_25 : decode cX3_painted 25 = .ok (.aload_n 0, 1) := by decide +kernel
theorem dX3_painted_26 : decode cX3_painted 26 = .ok (.getfield 43, 3) := by decide +kernel
theorem dX3_painted_29 : decode cX3_painted 29 = .ok (.if_icmp .ge 46, 3) := by decide +kernel
theorem dX3_painted_32 : decode cX3_painted 32 = .ok (.iload_n 1, 1) := by decide +kernel
theorem dX3_painted_33 : decode cX3_painted 33 = .ok (.iconst 3, 1) := by decide +kernel
theorem dX3_painted_34 : decode cX3_painted 34 = .ok (.if_icmp .ne 41, 3) := by decide +kernel
theorem dX3_painted_37 : decode cX3_painted 37 = .ok (.lload_n 2, 1) := by decide +kernel
theorem dX3_painted_38 : decode cX3_painted 38 = .ok (.aload_n 0, 1) := by decide +kernel
theorem dX3_painted_39 : decode cX3_painted 39 = .ok (.getfield 16, 3) := by decide +kernel
theorem dX3_painted_42 : decode cX3_painted 42 = .ok (.iload 4, 2) := by decide +kernel
theorem dX3_painted_44 : decode cX3_painted 44 = .ok (.baload, 1) := by decide +kernel
theorem dX3_painted_45 : decode cX3_painted 45 = .ok (.ifCond .eq 21, 3) := by decide +kernel
theorem dX3_painted_48 : decode cX3_painted 48 = .ok (.aload_n 0, 1) := by decide +kernel
theorem dX3_painted_49 : decode cX3_painted 49 = .ok (.iload 4, 2) := by decide +kernel
theorem dX3_painted_51 : decode cX3_painted 51 = .ok (.invokevirtual 85, 3) := by decide +kernel
theorem dX3_painted_54 : decode cX3_painted 54 = .ok (.ifCond .eq 12, 3) := by decide +kernel
theorem dX3_painted_57 : decode cX3_painted 57 = .ok (.aload_n 0, 1) := by decide +kernel
theorem dX3_painted_58 : decode cX3_painted 58 = .ok (.iload 4, 2) := by decide +kernel
theorem dX3_painted_60 : decode cX3_painted 60 = .ok (.invokevirtual 58, 3) := by decide +kernel
theorem dX3_painted_63 : decode cX3_painted 63 = .ok (.goto 4, 3) := by decide +kernel
theorem dX3_painted_66 : decode cX3_painted 66 = .ok (.lconst 0, 1) := by decide +kernel
theorem dX3_painted_67 : decode cX3_painted 67 = .ok (.ladd, 1) := by decide +kernel
theorem dX3_painted_68 : decode cX3_painted 68 = .ok (.lstore_n 2, 1) := by decide +kernel
theorem dX3_painted_69 : decode cX3_painted 69 = .ok (.iinc 4 1, 3) := by decide +kernel
theorem dX3_painted_72 : decode cX3_painted 72 = .ok (.goto (-49), 3) := by decide +kernel
theorem dX3_painted_75 : decode cX3_painted 75 = .ok (.iconst 0, 1) := by decide +kernel
theorem dX3_painted_76 : decode cX3_painted 76 = .ok (.istore 4, 2) := by decide +kernel
theorem dX3_painted_78 : decode cX3_painted 78 = .ok (.iload 4, 2) := by decide +kernel
theorem dX3_painted_80 : decode cX3_painted 80 = .ok (.bipush 32, 2) := by decide +kernel
theorem dX3_painted_82 : decode cX3_painted 82 = .ok (.if_icmp .ge 65, 3) := by decide +kernel
theorem dX3_painted_85 : decode cX3_painted 85 = .ok (.iload_n 1, 1) := by decide +kernel
theorem dX3_painted_86 : decode cX3_painted 86 = .ok (.iconst 3, 1) := by decide +kernel
theorem dX3_painted_87 : decode cX3_painted 87 = .ok (.if_icmp .ge 60, 3) := by decide +kernel
theorem dX3_painted_90 : decode cX3_painted 90 = .ok (.iconst 0, 1) := by decide +kernel
theorem dX3_painted_91 : decode cX3_painted 91 = .ok (.istore 5, 2) := by decide +kernel
theorem dX3_painted_93 : decode cX3_painted 93 = .ok (.iload 5, 2) := by decide +kernel
theorem dX3_painted_95 : decode cX3_painted 95 = .ok (.bipush 32, 2) := by decide +kernel
theorem dX3_painted_97 : decode cX3_painted 97 = .ok (.if_icmp .ge 44, 3) := by decide +kernel
theorem dX3_painted_100 : decode cX3_painted 100 = .ok (.aload_n 0, 1) := by decide +kernel
theorem dX3_painted_101 : decode cX3_painted 101 = .ok (.iload 4, 2) := by decide +kernel
theorem dX3_painted_103 : decode cX3_painted 103 = .ok (.iload 5, 2) := by decide +kernel
theorem dX3_painted_105 : decode cX3_painted 105 = .ok (.invokevirtual 137, 3) := by decide +kernel
theorem dX3_painted_108 : decode cX3_painted 108 = .ok (.istore 6, 2) := by decide +kernel
theorem dX3_painted_110 : decode cX3_painted 110 = .ok (.lload_n 2, 1) := by decide +kernel
theorem dX3_painted_111 : decode cX3_painted 111 = .ok (.iload_n 1, 1) := by decide +kernel
theorem dX3_painted_112 : decode cX3_painted 112 = .ok (.iconst 2, 1) := by decide +kernel
theorem dX3_painted_113 : decode cX3_painted 113 = .ok (.if_icmp .ne 9, 3) := by decide +kernel
theorem dX3_painted_116 : decode cX3_painted 116 = .ok (.iload 6, 2) := by decide +kernel
theorem dX3_painted_118 : decode cX3_painted 118 = .ok (.i2l, 1) := by decide +kernel
theorem dX3_painted_119 : decode cX3_painted 119 = .ok (.goto 14, 3) := by decide +kernel
theorem dX3_painted_122 : decode cX3_painted 122 = .ok (.iload 6, 2) := by decide +kernel
theorem dX3_painted_124 : decode cX3_painted 124 = .ok (.iload_n 1, 1) := by decide +kernel
theorem dX3_painted_125 : decode cX3_painted 125 = .ok (.if_icmp .le 7, 3) := by decide +kernel
theorem dX3_painted_128 : decode cX3_painted 128 = .ok (.lconst 1, 1) := by decide +kernel
theorem dX3_painted_129 : decode cX3_painted 129 = .ok (.goto 4, 3) := by decide +kernel
theorem dX3_painted_132 : decode cX3_painted 132 = .ok (.lconst 0, 1) := by decide +kernel
theorem dX3_painted_133 : decode cX3_painted 133 = .ok (.ladd, 1) := by decide +kernel
theorem dX3_painted_134 : decode cX3_painted 134 = .ok (.lstore_n 2, 1) := by decide +kernel
theorem dX3_painted_135 : decode cX3_painted 135 = .ok (.iinc 5 1, 3) := by decide +kernel
theorem dX3_painted_138 : decode cX3_painted 138 = .ok (.goto (-45), 3) := by decide +kernel
theorem dX3_painted_141 : decode cX3_painted 141 = .ok (.iinc 4 1, 3) := by decide +kernel
theorem dX3_painted_144 : decode cX3_painted 144 = .ok (.goto (-66), 3) := by decide +kernel
theorem dX3_painted_147 : decode cX3_painted 147 = .ok (.lload_n 2, 1) := by decide +kernel
theorem dX3_painted_148 : decode cX3_painted 148 = .ok (.lreturn, 1) := by decide +kernel
set_option maxRecDepth 20000 in
theorem ggX3_locate_X3_isRight : GoodIn wsX3_locate wsX3_isRight := goodIn_r _ [8, 9, 10, 11, 7, 12, 13, 14, 15, 16, 17, 18, 19, 20, 21, 22, 23, 24, 25, 26, 31, 32, 33, 34, 35, 36, 37, 38, 39, 40, 41] (by decide +kernel) (by decide +kernel)
set_option maxRecDepth 20000 in
theorem gX3_locate_X3_isRight : GoodIn wsX3_locate (wsV RX3 85 RX3 yX3_isRight wsX3_isRight) := goodIn_app (goodIn_of _ (by decide +kernel)) ggX3_locate_X3_isRight
set_option maxRecDepth 20000 in
theorem ggX3_locate_X3_hasPlace : GoodIn wsX3_locate wsX3_hasPlace := goodIn_r _ [30, 22, 23, 13, 14, 15, 7, 16, 17, 24, 25, 26, 31, 32, 33, 34, 35, 36, 37, 38, 39, 40, 41] (by decide +kernel) (by decide +kernel)
set_option maxRecDepth 20000 in
theorem gX3_locate_X3_hasPlace : GoodIn wsX3_locate (wsV RX3 73 RX3 yX3_hasPlace wsX3_hasPlace) := goodIn_app (goodIn_of _ (by decide +kernel)) ggX3_locate_X3_hasPlace
theorem dX3_locate_0 : decode cX3_locate 0 = .ok (.aload_n 0, 1) := by decide +kernel
theorem dX3_locate_1 : decode cX3_locate 1 = .ok (.iconst 0, 1) := by decide +kernel
theorem dX3_locate_2 : decode cX3_locate 2 = .ok (.putfield 33, 3) := by decide +kernel
theorem dX3_locate_5 : decode cX3_locate 5 = .ok (.iconst 0, 1) := by decide +kernel
theorem dX3_locate_6 : decode cX3_locate 6 = .ok (.istore_n 3, 1) := by decide +kernel
theorem dX3_locate_7 : decode cX3_locate 7 = .ok (.iload_n 3, 1) := by decide +kernel
theorem dX3_locate_8 : decode cX3_locate 8 = .ok (.aload_n 0, 1) := by decide +kernel
theorem dX3_locate_9 : decode cX3_locate 9 = .ok (.getfield 43, 3) := by decide +kernel
theorem dX3_locate_12 : decode cX3_locate 12 = .ok (.if_icmp .ge 40, 3) := by decide +kernel
theorem dX3_locate_15 : decode cX3_locate 15 = .ok (.aload_n 0, 1) := by decide +kernel
theorem dX3_locate_16 : decode cX3_locate 16 = .ok (.getfield 16, 3) := by decide +kernel
theorem dX3_locate_19 : decode cX3_locate 19 = .ok (.iload_n 3, 1) := by decide +kernel
theorem dX3_locate_20 : decode cX3_locate 20 = .ok (.baload, 1) := by decide +kernel
theorem dX3_locate_21 : decode cX3_locate 21 = .ok (.ifCond .eq 25, 3) := by decide +kernel
