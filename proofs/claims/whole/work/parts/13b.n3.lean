theorem dX3_isOdd_149 : decode cX3_isOdd 149 = .ok (.iload_n 2, 1) := by decide +kernel
theorem dX3_isOdd_150 : decode cX3_isOdd 150 = .ok (.iload_n 3, 1) := by decide +kernel
theorem dX3_isOdd_151 : decode cX3_isOdd 151 = .ok (.invokevirtual 54, 3) := by decide +kernel
theorem dX3_isOdd_154 : decode cX3_isOdd 154 = .ok (.invokestatic 66, 3) := by decide +kernel
theorem dX3_isOdd_157 : decode cX3_isOdd 157 = .ok (.aload_n 0, 1) := by decide +kernel
theorem dX3_isOdd_158 : decode cX3_isOdd 158 = .ok (.iload_n 1, 1) := by decide +kernel
theorem dX3_isOdd_159 : decode cX3_isOdd 159 = .ok (.iload_n 2, 1) := by decide +kernel
theorem dX3_isOdd_160 : decode cX3_isOdd 160 = .ok (.iload 4, 2) := by decide +kernel
theorem dX3_isOdd_162 : decode cX3_isOdd 162 = .ok (.invokevirtual 54, 3) := by decide +kernel
theorem dX3_isOdd_165 : decode cX3_isOdd 165 = .ok (.invokestatic 66, 3) := by decide +kernel
theorem dX3_isOdd_168 : decode cX3_isOdd 168 = .ok (.imul, 1) := by decide +kernel
theorem dX3_isOdd_169 : decode cX3_isOdd 169 = .ok (.ifCond .ge 33, 3) := by decide +kernel
theorem dX3_isOdd_172 : decode cX3_isOdd 172 = .ok (.aload_n 0, 1) := by decide +kernel
theorem dX3_isOdd_173 : decode cX3_isOdd 173 = .ok (.iload_n 3, 1) := by decide +kernel
theorem dX3_isOdd_174 : decode cX3_isOdd 174 = .ok (.iload 4, 2) := by decide +kernel
theorem dX3_isOdd_176 : decode cX3_isOdd 176 = .ok (.iload_n 1, 1) := by decide +kernel
theorem dX3_isOdd_177 : decode cX3_isOdd 177 = .ok (.invokevirtual 54, 3) := by decide +kernel
theorem dX3_isOdd_180 : decode cX3_isOdd 180 = .ok (.invokestatic 66, 3) := by decide +kernel
theorem dX3_isOdd_183 : decode cX3_isOdd 183 = .ok (.aload_n 0, 1) := by decide +kernel
theorem dX3_isOdd_184 : decode cX3_isOdd 184 = .ok (.iload_n 3, 1) := by decide +kernel
theorem dX3_isOdd_185 : decode cX3_isOdd 185 = .ok (.iload 4, 2) := by decide +kernel
theorem dX3_isOdd_187 : decode cX3_isOdd 187 = .ok (.iload_n 2, 1) := by decide +kernel
theorem dX3_isOdd_188 : decode cX3_isOdd 188 = .ok (.invokevirtual 54, 3) := by decide +kernel
theorem dX3_isOdd_191 : decode cX3_isOdd 191 = .ok (.invokestatic 66, 3) := by decide +kernel
theorem dX3_isOdd_194 : decode cX3_isOdd 194 = .ok (.imul, 1) := by decide +kernel
theorem dX3_isOdd_195 : decode cX3_isOdd 195 = .ok (.ifCond .ge 7, 3) := by decide +kernel
theorem dX3_isOdd_198 : decode cX3_isOdd 198 = .ok (.iconst 1, 1) := by decide +kernel
theorem dX3_isOdd_199 : decode cX3_isOdd 199 = .ok (.goto 4, 3) := by decide +kernel
theorem dX3_isOdd_202 : decode cX3_isOdd 202 = .ok (.iconst 0, 1) := by decide +kernel
theorem dX3_isOdd_203 : decode cX3_isOdd 203 = .ok (.ireturn, 1) := by decide +kernel
set_option maxRecDepth 20000 in
theorem ggX3_isTidy_X3_at : GoodIn wsX3_isTidy wsX3_at := goodIn_r _ [7, 8, 35, 36, 37, 38, 39, 40, 41, 42, 43, 44, 45] (by decide +kernel) (by decide +kernel)
set_option maxRecDepth 20000 in
theorem gX3_isTidy_X3_at : GoodIn wsX3_isTidy (wsV RX3 50 RX3 yX3_at wsX3_at) := goodIn_app (goodIn_of _ (by decide +kernel)) ggX3_isTidy_X3_at
set_option maxRecDepth 20000 in
theorem ggX3_isTidy_X3_isCorner : GoodIn wsX3_isTidy wsX3_isCorner := goodIn_r _ [12, 3, 4, 5, 6, 7, 8, 35, 36, 37, 38, 39, 40, 41, 42, 43, 44, 45] (by decide +kernel) (by decide +kernel)
set_option maxRecDepth 20000 in
theorem gX3_isTidy_X3_isCorner : GoodIn wsX3_isTidy (wsV RX3 70 RX3 yX3_isCorner wsX3_isCorner) := goodIn_app (goodIn_of _ (by decide +kernel)) ggX3_isTidy_X3_isCorner
set_option maxRecDepth 20000 in
theorem ggX3_isTidy_X3_hasPlace : GoodIn wsX3_isTidy wsX3_hasPlace := goodIn_r _ [16, 1, 2, 3, 4, 5, 6, 7, 8, 17, 18, 19, 35, 36, 37, 38, 39, 40, 41, 42, 43, 44, 45] (by decide +kernel) (by decide +kernel)
set_option maxRecDepth 20000 in
theorem gX3_isTidy_X3_hasPlace : GoodIn wsX3_isTidy (wsV RX3 73 RX3 yX3_hasPlace wsX3_hasPlace) := goodIn_app (goodIn_of _ (by decide +kernel)) ggX3_isTidy_X3_hasPlace
set_option maxRecDepth 20000 in
theorem ggX3_isTidy_X3_isOdd : GoodIn wsX3_isTidy wsX3_isOdd := goodIn_r _ [23, 24, 25, 26, 6, 27, 1, 2, 28, 29, 30, 31, 17, 18, 19, 32, 33, 34, 35, 36, 37, 38, 39, 40, 41, 42, 43, 44, 45] (by decide +kernel) (by decide +kernel)
set_option maxRecDepth 20000 in
theorem gX3_isTidy_X3_isOdd : GoodIn wsX3_isTidy (wsV RX3 77 RX3 yX3_isOdd wsX3_isOdd) := goodIn_app (goodIn_of _ (by decide +kernel)) ggX3_isTidy_X3_isOdd
theorem dX3_isTidy_0 : decode cX3_isTidy 0 = .ok (.iconst 0, 1) := by decide +kernel
theorem dX3_isTidy_1 : decode cX3_isTidy 1 = .ok (.istore_n 3, 1) := by decide +kernel
theorem dX3_isTidy_2 : decode cX3_isTidy 2 = .ok (.iconst 0, 1) := by decide +kernel
theorem dX3_isTidy_3 : decode cX3_isTidy 3 = .ok (.istore 4, 2) := by decide +kernel
theorem dX3_isTidy_5 : decode cX3_isTidy 5 = .ok (.iload 4, 2) := by decide +kernel
theorem dX3_isTidy_7 : decode cX3_isTidy 7 = .ok (.iconst 3, 1) := by decide +kernel
theorem dX3_isTidy_8 : decode cX3_isTidy 8 = .ok (.if_icmp .ge 134, 3) := by decide +kernel
theorem dX3_isTidy_11 : decode cX3_isTidy 11 = .ok (.iload_n 3, 1) := by decide +kernel
theorem dX3_isTidy_12 : decode cX3_isTidy 12 = .ok (.aload_n 0, 1) := by decide +kernel
theorem dX3_isTidy_13 : decode cX3_isTidy 13 = .ok (.iload_n 2, 1) := by decide +kernel
theorem dX3_isTidy_14 : decode cX3_isTidy 14 = .ok (.aload_n 0, 1) := by decide +kernel
theorem dX3_isTidy_15 : decode cX3_isTidy 15 = .ok (.iload_n 1, 1) := by decide +kernel
theorem dX3_isTidy_16 : decode cX3_isTidy 16 = .ok (.iload 4, 2) := by decide +kernel
theorem dX3_isTidy_18 : decode cX3_isTidy 18 = .ok (.invokevirtual 50, 3) := by decide +kernel
theorem dX3_isTidy_21 : decode cX3_isTidy 21 = .ok (.invokevirtual 70, 3) := by decide +kernel
theorem dX3_isTidy_24 : decode cX3_isTidy 24 = .ok (.ifCond .eq 7, 3) := by decide +kernel
theorem dX3_isTidy_27 : decode cX3_isTidy 27 = .ok (.iconst 1, 1) := by decide +kernel
theorem dX3_isTidy_28 : decode cX3_isTidy 28 = .ok (.goto 4, 3) := by decide +kernel
theorem dX3_isTidy_31 : decode cX3_isTidy 31 = .ok (.iconst 0, 1) := by decide +kernel
theorem dX3_isTidy_32 : decode cX3_isTidy 32 = .ok (.iadd, 1) := by decide +kernel
theorem dX3_isTidy_33 : decode cX3_isTidy 33 = .ok (.istore_n 3, 1) := by decide +kernel
theorem dX3_isTidy_34 : decode cX3_isTidy 34 = .ok (.aload_n 0, 1) := by decide +kernel
theorem dX3_isTidy_35 : decode cX3_isTidy 35 = .ok (.iload_n 2, 1) := by decide +kernel
theorem dX3_isTidy_36 : decode cX3_isTidy 36 = .ok (.aload_n 0, 1) := by decide +kernel
theorem dX3_isTidy_37 : decode cX3_isTidy 37 = .ok (.iload_n 1, 1) := by decide +kernel
theorem dX3_isTidy_38 : decode cX3_isTidy 38 = .ok (.iload 4, 2) := by decide +kernel
theorem dX3_isTidy_40 : decode cX3_isTidy 40 = .ok (.invokevirtual 50, 3) := by decide +kernel
theorem dX3_isTidy_43 : decode cX3_isTidy 43 = .ok (.invokevirtual 70, 3) := by decide +kernel
theorem dX3_isTidy_46 : decode cX3_isTidy 46 = .ok (.ifCond .ne 39, 3) := by decide +kernel
theorem dX3_isTidy_49 : decode cX3_isTidy 49 = .ok (.aload_n 0, 1) := by decide +kernel
theorem dX3_isTidy_50 : decode cX3_isTidy 50 = .ok (.iload_n 2, 1) := by decide +kernel
theorem dX3_isTidy_51 : decode cX3_isTidy 51 = .ok (.aload_n 0, 1) := by decide +kernel
theorem dX3_isTidy_52 : decode cX3_isTidy 52 = .ok (.getfield 7, 3) := by decide +kernel
theorem dX3_isTidy_55 : decode cX3_isTidy 55 = .ok (.aload_n 0, 1) := by decide +kernel
theorem dX3_isTidy_56 : decode cX3_isTidy 56 = .ok (.iload_n 1, 1) := by decide +kernel
theorem dX3_isTidy_57 : decode cX3_isTidy 57 = .ok (.iload 4, 2) := by decide +kernel
theorem dX3_isTidy_59 : decode cX3_isTidy 59 = .ok (.invokevirtual 50, 3) := by decide +kernel
theorem dX3_isTidy_62 : decode cX3_isTidy 62 = .ok (.iaload, 1) := by decide +kernel
theorem dX3_isTidy_63 : decode cX3_isTidy 63 = .ok (.i2l, 1) := by decide +kernel
theorem dX3_isTidy_64 : decode cX3_isTidy 64 = .ok (.aload_n 0, 1) := by decide +kernel
theorem dX3_isTidy_65 : decode cX3_isTidy 65 = .ok (.getfield 13, 3) := by decide +kernel
theorem dX3_isTidy_68 : decode cX3_isTidy 68 = .ok (.aload_n 0, 1) := by decide +kernel
theorem dX3_isTidy_69 : decode cX3_isTidy 69 = .ok (.iload_n 1, 1) := by decide +kernel
theorem dX3_isTidy_70 : decode cX3_isTidy 70 = .ok (.iload 4, 2) := by decide +kernel
theorem dX3_isTidy_72 : decode cX3_isTidy 72 = .ok (.invokevirtual 50, 3) := by decide +kernel
theorem dX3_isTidy_75 : decode cX3_isTidy 75 = .ok (.iaload, 1) := by decide +kernel
theorem dX3_isTidy_76 : decode cX3_isTidy 76 = .ok (.i2l, 1) := by decide +kernel
theorem dX3_isTidy_77 : decode cX3_isTidy 77 = .ok (.invokevirtual 73, 3) := by decide +kernel
theorem dX3_isTidy_80 : decode cX3_isTidy 80 = .ok (.ifCond .eq 5, 3) := by decide +kernel
theorem dX3_isTidy_83 : decode cX3_isTidy 83 = .ok (.iconst 0, 1) := by decide +kernel
theorem dX3_isTidy_84 : decode cX3_isTidy 84 = .ok (.ireturn, 1) := by decide +kernel
theorem dX3_isTidy_85 : decode cX3_isTidy 85 = .ok (.aload_n 0, 1) := by decide +kernel
theorem dX3_isTidy_86 : decode cX3_isTidy 86 = .ok (.iload_n 1, 1) := by decide +kernel
theorem dX3_isTidy_87 : decode cX3_isTidy 87 = .ok (.aload_n 0, 1) := by decide +kernel
theorem dX3_isTidy_88 : decode cX3_isTidy 88 = .ok (.iload_n 2, 1) := by decide +kernel
theorem dX3_isTidy_89 : decode cX3_isTidy 89 = .ok (.iload 4, 2) := by decide +kernel
theorem dX3_isTidy_91 : decode cX3_isTidy 91 = .ok (.invokevirtual 50, 3) := by decide +kernel
theorem dX3_isTidy_94 : decode cX3_isTidy 94 = .ok (.invokevirtual 70, 3) := by decide +kernel
theorem dX3_isTidy_97 : decode cX3_isTidy 97 = .ok (.ifCond .ne 39, 3) := by decide +kernel
theorem dX3_isTidy_100 : decode cX3_isTidy 100 = .ok (.aload_n 0, 1) := by decide +kernel
theorem dX3_isTidy_101 : decode cX3_isTidy 101 = .ok (.iload_n 1, 1) := by decide +kernel
theorem dX3_isTidy_102 : decode cX3_isTidy 102 = .ok (.aload_n 0, 1) := by decide +kernel
theorem dX3_isTidy_103 : decode cX3_isTidy 103 = .ok (.getfield 7, 3) := by decide +kernel
theorem dX3_isTidy_106 : decode cX3_isTidy 106 = .ok (.aload_n 0, 1) := by decide +kernel
theorem dX3_isTidy_107 : decode cX3_isTidy 107 = .ok (.iload_n 2, 1) := by decide +kernel
theorem dX3_isTidy_108 : decode cX3_isTidy 108 = .ok (.iload 4, 2) := by decide +kernel
theorem dX3_isTidy_110 : decode cX3_isTidy 110 = .ok (.invokevirtual 50, 3) := by decide +kernel
theorem dX3_isTidy_113 : decode cX3_isTidy 113 = .ok (.iaload, 1) := by decide +kernel
theorem dX3_isTidy_114 : decode cX3_isTidy 114 = .ok (.i2l, 1) := by decide +kernel
theorem dX3_isTidy_115 : decode cX3_isTidy 115 = .ok (.aload_n 0, 1) := by decide +kernel
theorem dX3_isTidy_116 : decode cX3_isTidy 116 = .ok (.getfield 13, 3) := by decide +kernel
theorem dX3_isTidy_119 : decode cX3_isTidy 119 = .ok (.aload_n 0, 1) := by decide +kernel
theorem dX3_isTidy_120 : decode cX3_isTidy 120 = .ok (.iload_n 2, 1) := by decide +kernel
theorem dX3_isTidy_121 : decode cX3_isTidy 121 = .ok (.iload 4, 2) := by decide +kernel
theorem dX3_isTidy_123 : decode cX3_isTidy 123 = .ok (.invokevirtual 50, 3) := by decide +kernel
theorem dX3_isTidy_126 : decode cX3_isTidy 126 = .ok (.iaload, 1) := by decide +kernel
theorem dX3_isTidy_127 : decode cX3_isTidy 127 = .ok (.i2l, 1) := by decide +kernel
theorem dX3_isTidy_128 : decode cX3_isTidy 128 = .ok (.invokevirtual 73, 3) := by decide +kernel
theorem dX3_isTidy_131 : decode cX3_isTidy 131 = .ok (.ifCond .eq 5, 3) := by decide +kernel
theorem dX3_isTidy_134 : decode cX3_isTidy 134 = .ok (.iconst 0, 1) := by decide +kernel
theorem dX3_isTidy_135 : decode cX3_isTidy 135 = .ok (.ireturn, 1) := by decide +kernel
theorem dX3_isTidy_136 : decode cX3_isTidy 136 = .ok (.iinc 4 1, 3) := by decide +kernel
theorem dX3_isTidy_139 : decode cX3_isTidy 139 = .ok (.goto (-134), 3) := by decide +kernel
theorem dX3_isTidy_142 : decode cX3_isTidy 142 = .ok (.iload_n 3, 1) := by decide +kernel
theorem dX3_isTidy_143 : decode cX3_isTidy 143 = .ok (.iconst 3, 1) := by decide +kernel
theorem dX3_isTidy_144 : decode cX3_isTidy 144 = .ok (.if_icmp .ne 5, 3) := by decide +kernel
theorem dX3_isTidy_147 : decode cX3_isTidy 147 = .ok (.iconst 0, 1) := by decide +kernel
theorem dX3_isTidy_148 : decode cX3_isTidy 148 = .ok (.ireturn, 1) := by decide +kernel
theorem dX3_isTidy_149 : decode cX3_isTidy 149 = .ok (.iconst 0, 1) := by decide +kernel
theorem dX3_isTidy_150 : decode cX3_isTidy 150 = .ok (.istore 4, 2) := by decide +kernel
theorem dX3_isTidy_152 : decode cX3_isTidy 152 = .ok (.iload 4, 2) := by decide +kernel
theorem dX3_isTidy_154 : decode cX3_isTidy 154 = .ok (.iconst 3, 1) := by decide +kernel
theorem dX3_isTidy_155 : decode cX3_isTidy 155 = .ok (.if_icmp .ge 65, 3) := by decide +kernel
theorem dX3_isTidy_158 : decode cX3_isTidy 158 = .ok (.iconst 0, 1) := by decide +kernel
theorem dX3_isTidy_159 : decode cX3_isTidy 159 = .ok (.istore 5, 2) := by decide +kernel
theorem dX3_isTidy_161 : decode cX3_isTidy 161 = .ok (.iload 5, 2) := by decide +kernel
theorem dX3_isTidy_163 : decode cX3_isTidy 163 = .ok (.iconst 3, 1) := by decide +kernel
theorem dX3_isTidy_164 : decode cX3_isTidy 164 = .ok (.if_icmp .ge 50, 3) := by decide +kernel
theorem dX3_isTidy_167 : decode cX3_isTidy 167 = .ok (.aload_n 0, 1) := by decide +kernel
theorem dX3_isTidy_168 : decode cX3_isTidy 168 = .ok (.aload_n 0, 1) := by decide +kernel
theorem dX3_isTidy_169 : decode cX3_isTidy 169 = .ok (.iload_n 1, 1) := by decide +kernel
theorem dX3_isTidy_170 : decode cX3_isTidy 170 = .ok (.iload 4, 2) := by decide +kernel
theorem dX3_isTidy_172 : decode cX3_isTidy 172 = .ok (.invokevirtual 50, 3) := by decide +kernel
theorem dX3_isTidy_175 : decode cX3_isTidy 175 = .ok (.aload_n 0, 1) := by decide +kernel
theorem dX3_isTidy_176 : decode cX3_isTidy 176 = .ok (.iload_n 1, 1) := by decide +kernel
theorem dX3_isTidy_177 : decode cX3_isTidy 177 = .ok (.iload 4, 2) := by decide +kernel
theorem dX3_isTidy_179 : decode cX3_isTidy 179 = .ok (.iconst 1, 1) := by decide +kernel
theorem dX3_isTidy_180 : decode cX3_isTidy 180 = .ok (.iadd, 1) := by decide +kernel
theorem dX3_isTidy_181 : decode cX3_isTidy 181 = .ok (.invokevirtual 50, 3) := by decide +kernel
theorem dX3_isTidy_184 : decode cX3_isTidy 184 = .ok (.aload_n 0, 1) := by decide +kernel
theorem dX3_isTidy_185 : decode cX3_isTidy 185 = .ok (.iload_n 2, 1) := by decide +kernel
theorem dX3_isTidy_186 : decode cX3_isTidy 186 = .ok (.iload 5, 2) := by decide +kernel
theorem dX3_isTidy_188 : decode cX3_isTidy 188 = .ok (.invokevirtual 50, 3) := by decide +kernel
theorem dX3_isTidy_191 : decode cX3_isTidy 191 = .ok (.aload_n 0, 1) := by decide +kernel
theorem dX3_isTidy_192 : decode cX3_isTidy 192 = .ok (.iload_n 2, 1) := by decide +kernel
theorem dX3_isTidy_193 : decode cX3_isTidy 193 = .ok (.iload 5, 2) := by decide +kernel
theorem dX3_isTidy_195 : decode cX3_isTidy 195 = .ok (.iconst 1, 1) := by decide +kernel
theorem dX3_isTidy_196 : decode cX3_isTidy 196 = .ok (.iadd, 1) := by decide +kernel
theorem dX3_isTidy_197 : decode cX3_isTidy 197 = .ok (.invokevirtual 50, 3) := by decide +kernel
theorem dX3_isTidy_200 : decode cX3_isTidy 200 = .ok (.invokevirtual 77, 3) := by decide +kernel
theorem dX3_isTidy_203 : decode cX3_isTidy 203 = .ok (.ifCond .eq 5, 3) := by decide +kernel
theorem dX3_isTidy_206 : decode cX3_isTidy 206 = .ok (.iconst 0, 1) := by decide +kernel
theorem dX3_isTidy_207 : decode cX3_isTidy 207 = .ok (.ireturn, 1) := by decide +kernel
theorem dX3_isTidy_208 : decode cX3_isTidy 208 = .ok (.iinc 5 1, 3) := by decide +kernel
theorem dX3_isTidy_211 : decode cX3_isTidy 211 = .ok (.goto (-50), 3) := by decide +kernel
theorem dX3_isTidy_214 : decode cX3_isTidy 214 = .ok (.iinc 4 1, 3) := by decide +kernel
theorem dX3_isTidy_217 : decode cX3_isTidy 217 = .ok (.goto (-65), 3) := by decide +kernel
theorem dX3_isTidy_220 : decode cX3_isTidy 220 = .ok (.iconst 1, 1) := by decide +kernel
theorem dX3_isTidy_221 : decode cX3_isTidy 221 = .ok (.ireturn, 1) := by decide +kernel
set_option maxRecDepth 20000 in
theorem ggX3_isCovered_X3_isThere : GoodIn wsX3_isCovered wsX3_isThere := goodIn_r _ [7, 8, 9, 10, 11, 6, 12, 33, 34, 35, 36, 37, 38, 39, 40, 41, 42, 43] (by decide +kernel) (by decide +kernel)
set_option maxRecDepth 20000 in
theorem gX3_isCovered_X3_isThere : GoodIn wsX3_isCovered (wsV RX3 81 RX3 yX3_isThere wsX3_isThere) := goodIn_app (goodIn_of _ (by decide +kernel)) ggX3_isCovered_X3_isThere
set_option maxRecDepth 20000 in
theorem ggX3_isCovered_X3_isRight : GoodIn wsX3_isCovered wsX3_isRight := goodIn_r _ [16, 17, 18, 19, 6, 20, 21, 22, 23, 24, 25, 26, 27, 28, 29, 1, 2, 30, 31, 32, 33, 34, 35, 36, 37, 38, 39, 40, 41, 42, 43] (by decide +kernel) (by decide +kernel)
set_option maxRecDepth 20000 in
theorem gX3_isCovered_X3_isRight : GoodIn wsX3_isCovered (wsV RX3 85 RX3 yX3_isRight wsX3_isRight) := goodIn_app (goodIn_of _ (by decide +kernel)) ggX3_isCovered_X3_isRight
set_option maxRecDepth 20000 in
theorem ggX3_isCovered_X3_at : GoodIn wsX3_isCovered wsX3_at := goodIn_r _ [24, 25, 33, 34, 35, 36, 37, 38, 39, 40, 41, 42, 43] (by decide +kernel) (by decide +kernel)
set_option maxRecDepth 20000 in
theorem gX3_isCovered_X3_at : GoodIn wsX3_isCovered (wsV RX3 50 RX3 yX3_at wsX3_at) := goodIn_app (goodIn_of _ (by decide +kernel)) ggX3_isCovered_X3_at
set_option maxRecDepth 20000 in
theorem ggX3_isCovered_X3_turnOf : GoodIn wsX3_isCovered wsX3_turnOf := goodIn_r _ [32] (by decide +kernel) (by decide +kernel)
set_option maxRecDepth 20000 in
theorem gX3_isCovered_X3_turnOf : GoodIn wsX3_isCovered (va_wsS RX3 36 yX3_turnOf wsX3_turnOf) := goodIn_app (goodIn_of _ (by decide +kernel)) ggX3_isCovered_X3_turnOf
theorem dX3_isCovered_0 : decode cX3_isCovered 0 = .ok (.aload_n 0, 1) := by decide +kernel
theorem dX3_isCovered_1 : decode cX3_isCovered 1 = .ok (.iload_n 1, 1) := by decide +kernel
theorem dX3_isCovered_2 : decode cX3_isCovered 2 = .ok (.invokevirtual 81, 3) := by decide +kernel
theorem dX3_isCovered_5 : decode cX3_isCovered 5 = .ok (.ifCond .eq 11, 3) := by decide +kernel
theorem dX3_isCovered_8 : decode cX3_isCovered 8 = .ok (.aload_n 0, 1) := by decide +kernel
theorem dX3_isCovered_9 : decode cX3_isCovered 9 = .ok (.iload_n 1, 1) := by decide +kernel
theorem dX3_isCovered_10 : decode cX3_isCovered 10 = .ok (.invokevirtual 85, 3) := by decide +kernel
theorem dX3_isCovered_13 : decode cX3_isCovered 13 = .ok (.ifCond .ne 5, 3) := by decide +kernel
theorem dX3_isCovered_16 : decode cX3_isCovered 16 = .ok (.iconst 0, 1) := by decide +kernel
theorem dX3_isCovered_17 : decode cX3_isCovered 17 = .ok (.ireturn, 1) := by decide +kernel
theorem dX3_isCovered_18 : decode cX3_isCovered 18 = .ok (.iconst 0, 1) := by decide +kernel
theorem dX3_isCovered_19 : decode cX3_isCovered 19 = .ok (.istore 4, 2) := by decide +kernel
theorem dX3_isCovered_21 : decode cX3_isCovered 21 = .ok (.iload 4, 2) := by decide +kernel
theorem dX3_isCovered_23 : decode cX3_isCovered 23 = .ok (.iconst 3, 1) := by decide +kernel
theorem dX3_isCovered_24 : decode cX3_isCovered 24 = .ok (.if_icmp .ge 149, 3) := by decide +kernel
theorem dX3_isCovered_27 : decode cX3_isCovered 27 = .ok (.aload_n 0, 1) := by decide +kernel
theorem dX3_isCovered_28 : decode cX3_isCovered 28 = .ok (.iload_n 1, 1) := by decide +kernel
theorem dX3_isCovered_29 : decode cX3_isCovered 29 = .ok (.iload 4, 2) := by decide +kernel
theorem dX3_isCovered_31 : decode cX3_isCovered 31 = .ok (.invokevirtual 50, 3) := by decide +kernel
theorem dX3_isCovered_34 : decode cX3_isCovered 34 = .ok (.istore 5, 2) := by decide +kernel
theorem dX3_isCovered_36 : decode cX3_isCovered 36 = .ok (.aload_n 0, 1) := by decide +kernel
theorem dX3_isCovered_37 : decode cX3_isCovered 37 = .ok (.iload_n 1, 1) := by decide +kernel
theorem dX3_isCovered_38 : decode cX3_isCovered 38 = .ok (.iload 4, 2) := by decide +kernel
theorem dX3_isCovered_40 : decode cX3_isCovered 40 = .ok (.iconst 1, 1) := by decide +kernel
theorem dX3_isCovered_41 : decode cX3_isCovered 41 = .ok (.iadd, 1) := by decide +kernel
theorem dX3_isCovered_42 : decode cX3_isCovered 42 = .ok (.invokevirtual 50, 3) := by decide +kernel
theorem dX3_isCovered_45 : decode cX3_isCovered 45 = .ok (.istore 6, 2) := by decide +kernel
theorem dX3_isCovered_47 : decode cX3_isCovered 47 = .ok (.aload_n 0, 1) := by decide +kernel
theorem dX3_isCovered_48 : decode cX3_isCovered 48 = .ok (.getfield 7, 3) := by decide +kernel
theorem dX3_isCovered_51 : decode cX3_isCovered 51 = .ok (.iload 5, 2) := by decide +kernel
theorem dX3_isCovered_53 : decode cX3_isCovered 53 = .ok (.iaload, 1) := by decide +kernel
theorem dX3_isCovered_54 : decode cX3_isCovered 54 = .ok (.i2l, 1) := by decide +kernel
theorem dX3_isCovered_55 : decode cX3_isCovered 55 = .ok (.aload_n 0, 1) := by decide +kernel
theorem dX3_isCovered_56 : decode cX3_isCovered 56 = .ok (.getfield 13, 3) := by decide +kernel
theorem dX3_isCovered_59 : decode cX3_isCovered 59 = .ok (.iload 5, 2) := by decide +kernel
theorem dX3_isCovered_61 : decode cX3_isCovered 61 = .ok (.iaload, 1) := by decide +kernel
theorem dX3_isCovered_62 : decode cX3_isCovered 62 = .ok (.i2l, 1) := by decide +kernel
theorem dX3_isCovered_63 : decode cX3_isCovered 63 = .ok (.aload_n 0, 1) := by decide +kernel
theorem dX3_isCovered_64 : decode cX3_isCovered 64 = .ok (.getfield 7, 3) := by decide +kernel
theorem dX3_isCovered_67 : decode cX3_isCovered 67 = .ok (.iload 6, 2) := by decide +kernel
theorem dX3_isCovered_69 : decode cX3_isCovered 69 = .ok (.iaload, 1) := by decide +kernel
theorem dX3_isCovered_70 : decode cX3_isCovered 70 = .ok (.i2l, 1) := by decide +kernel
theorem dX3_isCovered_71 : decode cX3_isCovered 71 = .ok (.aload_n 0, 1) := by decide +kernel
theorem dX3_isCovered_72 : decode cX3_isCovered 72 = .ok (.getfield 13, 3) := by decide +kernel
theorem dX3_isCovered_75 : decode cX3_isCovered 75 = .ok (.iload 6, 2) := by decide +kernel
theorem dX3_isCovered_77 : decode cX3_isCovered 77 = .ok (.iaload, 1) := by decide +kernel
theorem dX3_isCovered_78 : decode cX3_isCovered 78 = .ok (.i2l, 1) := by decide +kernel
theorem dX3_isCovered_79 : decode cX3_isCovered 79 = .ok (.iload_n 2, 1) := by decide +kernel
theorem dX3_isCovered_80 : decode cX3_isCovered 80 = .ok (.i2l, 1) := by decide +kernel
theorem dX3_isCovered_81 : decode cX3_isCovered 81 = .ok (.iload_n 3, 1) := by decide +kernel
theorem dX3_isCovered_82 : decode cX3_isCovered 82 = .ok (.i2l, 1) := by decide +kernel
theorem dX3_isCovered_83 : decode cX3_isCovered 83 = .ok (.invokestatic 36, 3) := by decide +kernel
theorem dX3_isCovered_86 : decode cX3_isCovered 86 = .ok (.lstore 7, 2) := by decide +kernel
theorem dX3_isCovered_88 : decode cX3_isCovered 88 = .ok (.aload_n 0, 1) := by decide +kernel
theorem dX3_isCovered_89 : decode cX3_isCovered 89 = .ok (.getfield 13, 3) := by decide +kernel
theorem dX3_isCovered_92 : decode cX3_isCovered 92 = .ok (.iload 6, 2) := by decide +kernel
theorem dX3_isCovered_94 : decode cX3_isCovered 94 = .ok (.iaload, 1) := by decide +kernel
theorem dX3_isCovered_95 : decode cX3_isCovered 95 = .ok (.aload_n 0, 1) := by decide +kernel
theorem dX3_isCovered_96 : decode cX3_isCovered 96 = .ok (.getfield 13, 3) := by decide +kernel
theorem dX3_isCovered_99 : decode cX3_isCovered 99 = .ok (.iload 5, 2) := by decide +kernel
theorem dX3_isCovered_101 : decode cX3_isCovered 101 = .ok (.iaload, 1) := by decide +kernel
theorem dX3_isCovered_102 : decode cX3_isCovered 102 = .ok (.if_icmp .lt 37, 3) := by decide +kernel
theorem dX3_isCovered_105 : decode cX3_isCovered 105 = .ok (.aload_n 0, 1) := by decide +kernel
theorem dX3_isCovered_106 : decode cX3_isCovered 106 = .ok (.getfield 13, 3) := by decide +kernel
theorem dX3_isCovered_109 : decode cX3_isCovered 109 = .ok (.iload 6, 2) := by decide +kernel
theorem dX3_isCovered_111 : decode cX3_isCovered 111 = .ok (.iaload, 1) := by decide +kernel
theorem dX3_isCovered_112 : decode cX3_isCovered 112 = .ok (.aload_n 0, 1) := by decide +kernel
theorem dX3_isCovered_113 : decode cX3_isCovered 113 = .ok (.getfield 13, 3) := by decide +kernel
theorem dX3_isCovered_116 : decode cX3_isCovered 116 = .ok (.iload 5, 2) := by decide +kernel
theorem dX3_isCovered_118 : decode cX3_isCovered 118 = .ok (.iaload, 1) := by decide +kernel
theorem dX3_isCovered_119 : decode cX3_isCovered 119 = .ok (.if_icmp .ne 24, 3) := by decide +kernel
theorem dX3_isCovered_122 : decode cX3_isCovered 122 = .ok (.aload_n 0, 1) := by decide +kernel
theorem dX3_isCovered_123 : decode cX3_isCovered 123 = .ok (.getfield 7, 3) := by decide +kernel
theorem dX3_isCovered_126 : decode cX3_isCovered 126 = .ok (.iload 6, 2) := by decide +kernel
theorem dX3_isCovered_128 : decode cX3_isCovered 128 = .ok (.iaload, 1) := by decide +kernel
theorem dX3_isCovered_129 : decode cX3_isCovered 129 = .ok (.aload_n 0, 1) := by decide +kernel
theorem dX3_isCovered_130 : decode cX3_isCovered 130 = .ok (.getfield 7, 3) := by decide +kernel
theorem dX3_isCovered_133 : decode cX3_isCovered 133 = .ok (.iload 5, 2) := by decide +kernel
theorem dX3_isCovered_135 : decode cX3_isCovered 135 = .ok (.iaload, 1) := by decide +kernel
theorem dX3_isCovered_136 : decode cX3_isCovered 136 = .ok (.if_icmp .ge 7, 3) := by decide +kernel
theorem dX3_isCovered_139 : decode cX3_isCovered 139 = .ok (.iconst 1, 1) := by decide +kernel
theorem dX3_isCovered_140 : decode cX3_isCovered 140 = .ok (.goto 4, 3) := by decide +kernel
theorem dX3_isCovered_143 : decode cX3_isCovered 143 = .ok (.iconst 0, 1) := by decide +kernel
theorem dX3_isCovered_144 : decode cX3_isCovered 144 = .ok (.istore 9, 2) := by decide +kernel
theorem dX3_isCovered_146 : decode cX3_isCovered 146 = .ok (.lload 7, 2) := by decide +kernel
theorem dX3_isCovered_148 : decode cX3_isCovered 148 = .ok (.lconst 0, 1) := by decide +kernel
theorem dX3_isCovered_149 : decode cX3_isCovered 149 = .ok (.lcmp, 1) := by decide +kernel
theorem dX3_isCovered_150 : decode cX3_isCovered 150 = .ok (.ifCond .lt 15, 3) := by decide +kernel
theorem dX3_isCovered_153 : decode cX3_isCovered 153 = .ok (.lload 7, 2) := by decide +kernel
theorem dX3_isCovered_155 : decode cX3_isCovered 155 = .ok (.lconst 0, 1) := by decide +kernel
theorem dX3_isCovered_156 : decode cX3_isCovered 156 = .ok (.lcmp, 1) := by decide +kernel
theorem dX3_isCovered_157 : decode cX3_isCovered 157 = .ok (.ifCond .ne 10, 3) := by decide +kernel
theorem dX3_isCovered_160 : decode cX3_isCovered 160 = .ok (.iload 9, 2) := by decide +kernel
theorem dX3_isCovered_162 : decode cX3_isCovered 162 = .ok (.ifCond .ne 5, 3) := by decide +kernel
theorem dX3_isCovered_165 : decode cX3_isCovered 165 = .ok (.iconst 0, 1) := by decide +kernel
theorem dX3_isCovered_166 : decode cX3_isCovered 166 = .ok (.ireturn, 1) := by decide +kernel
theorem dX3_isCovered_167 : decode cX3_isCovered 167 = .ok (.iinc 4 1, 3) := by decide +kernel
theorem dX3_isCovered_170 : decode cX3_isCovered 170 = .ok (.goto (-149), 3) := by decide +kernel
theorem dX3_isCovered_173 : decode cX3_isCovered 173 = .ok (.iconst 1, 1) := by decide +kernel
theorem dX3_isCovered_174 : decode cX3_isCovered 174 = .ok (.ireturn, 1) := by decide +kernel
set_option maxRecDepth 20000 in
theorem ggX3_howMany_X3_isCovered : GoodIn wsX3_howMany wsX3_isCovered := goodIn_r _ [6, 7, 8, 9, 10, 11, 5, 12, 1, 13, 14, 15, 16, 17, 18, 19, 20, 21, 22, 23, 24, 25, 26, 27, 28, 29, 30, 31, 32, 33, 34, 35, 36, 37, 38, 39, 40, 41, 42, 43, 44, 45, 46, 47] (by decide +kernel) (by decide +kernel)
set_option maxRecDepth 20000 in
theorem gX3_howMany_X3_isCovered : GoodIn wsX3_howMany (wsV RX3 88 RX3 yX3_isCovered wsX3_isCovered) := goodIn_app (goodIn_of _ (by decide +kernel)) ggX3_howMany_X3_isCovered
theorem dX3_howMany_0 : decode cX3_howMany 0 = .ok (.iconst 0, 1) := by decide +kernel
theorem dX3_howMany_1 : decode cX3_howMany 1 = .ok (.istore_n 3, 1) := by decide +kernel
theorem dX3_howMany_2 : decode cX3_howMany 2 = .ok (.iconst 0, 1) := by decide +kernel
theorem dX3_howMany_3 : decode cX3_howMany 3 = .ok (.istore 4, 2) := by decide +kernel
theorem dX3_howMany_5 : decode cX3_howMany 5 = .ok (.iload 4, 2) := by decide +kernel
theorem dX3_howMany_7 : decode cX3_howMany 7 = .ok (.aload_n 0, 1) := by decide +kernel
theorem dX3_howMany_8 : decode cX3_howMany 8 = .ok (.getfield 43, 3) := by decide +kernel
theorem dX3_howMany_11 : decode cX3_howMany 11 = .ok (.if_icmp .ge 40, 3) := by decide +kernel
theorem dX3_howMany_14 : decode cX3_howMany 14 = .ok (.iload_n 3, 1) := by decide +kernel
theorem dX3_howMany_15 : decode cX3_howMany 15 = .ok (.aload_n 0, 1) := by decide +kernel
theorem dX3_howMany_16 : decode cX3_howMany 16 = .ok (.iload 4, 2) := by decide +kernel
theorem dX3_howMany_18 : decode cX3_howMany 18 = .ok (.bipush 16, 2) := by decide +kernel
theorem dX3_howMany_20 : decode cX3_howMany 20 = .ok (.iload_n 1, 1) := by decide +kernel
theorem dX3_howMany_21 : decode cX3_howMany 21 = .ok (.imul, 1) := by decide +kernel
theorem dX3_howMany_22 : decode cX3_howMany 22 = .ok (.bipush 8, 2) := by decide +kernel
theorem dX3_howMany_24 : decode cX3_howMany 24 = .ok (.iadd, 1) := by decide +kernel
theorem dX3_howMany_25 : decode cX3_howMany 25 = .ok (.bipush 16, 2) := by decide +kernel
theorem dX3_howMany_27 : decode cX3_howMany 27 = .ok (.iload_n 2, 1) := by decide +kernel
theorem dX3_howMany_28 : decode cX3_howMany 28 = .ok (.imul, 1) := by decide +kernel
theorem dX3_howMany_29 : decode cX3_howMany 29 = .ok (.bipush 8, 2) := by decide +kernel
theorem dX3_howMany_31 : decode cX3_howMany 31 = .ok (.iadd, 1) := by decide +kernel
theorem dX3_howMany_32 : decode cX3_howMany 32 = .ok (.invokevirtual 88, 3) := by decide +kernel
theorem dX3_howMany_35 : decode cX3_howMany 35 = .ok (.ifCond .eq 7, 3) := by decide +kernel
theorem dX3_howMany_38 : decode cX3_howMany 38 = .ok (.iconst 1, 1) := by decide +kernel
theorem dX3_howMany_39 : decode cX3_howMany 39 = .ok (.goto 4, 3) := by decide +kernel
theorem dX3_howMany_42 : decode cX3_howMany 42 = .ok (.iconst 0, 1) := by decide +kernel
theorem dX3_howMany_43 : decode cX3_howMany 43 = .ok (.iadd, 1) := by decide +kernel
theorem dX3_howMany_44 : decode cX3_howMany 44 = .ok (.istore_n 3, 1) := by decide +kernel
theorem dX3_howMany_45 : decode cX3_howMany 45 = .ok (.iinc 4 1, 3) := by decide +kernel
theorem dX3_howMany_48 : decode cX3_howMany 48 = .ok (.goto (-43), 3) := by decide +kernel
theorem dX3_howMany_51 : decode cX3_howMany 51 = .ok (.iload_n 3, 1) := by decide +kernel
theorem dX3_howMany_52 : decode cX3_howMany 52 = .ok (.ireturn, 1) := by decide +kernel
set_option maxRecDepth 20000 in
theorem ggX3_neighbour_X3_at : GoodIn wsX3_neighbour wsX3_at := goodIn_r _ [7, 8, 9, 10, 11, 12, 13, 14, 15, 16, 17, 18, 19] (by decide +kernel) (by decide +kernel)
set_option maxRecDepth 20000 in
theorem gX3_neighbour_X3_at : GoodIn wsX3_neighbour (wsV RX3 50 RX3 yX3_at wsX3_at) := goodIn_app (goodIn_of _ (by decide +kernel)) ggX3_neighbour_X3_at
theorem dX3_neighbour_0 : decode cX3_neighbour 0 = .ok (.iconst 0, 1) := by decide +kernel
theorem dX3_neighbour_1 : decode cX3_neighbour 1 = .ok (.istore_n 3, 1) := by decide +kernel
theorem dX3_neighbour_2 : decode cX3_neighbour 2 = .ok (.iload_n 3, 1) := by decide +kernel
theorem dX3_neighbour_3 : decode cX3_neighbour 3 = .ok (.aload_n 0, 1) := by decide +kernel
theorem dX3_neighbour_4 : decode cX3_neighbour 4 = .ok (.getfield 43, 3) := by decide +kernel
theorem dX3_neighbour_7 : decode cX3_neighbour 7 = .ok (.if_icmp .ge 79, 3) := by decide +kernel
theorem dX3_neighbour_10 : decode cX3_neighbour 10 = .ok (.aload_n 0, 1) := by decide +kernel
theorem dX3_neighbour_11 : decode cX3_neighbour 11 = .ok (.getfield 16, 3) := by decide +kernel
theorem dX3_neighbour_14 : decode cX3_neighbour 14 = .ok (.iload_n 3, 1) := by decide +kernel
theorem dX3_neighbour_15 : decode cX3_neighbour 15 = .ok (.baload, 1) := by decide +kernel
theorem dX3_neighbour_16 : decode cX3_neighbour 16 = .ok (.ifCond .eq 64, 3) := by decide +kernel
theorem dX3_neighbour_19 : decode cX3_neighbour 19 = .ok (.iload_n 3, 1) := by decide +kernel
theorem dX3_neighbour_20 : decode cX3_neighbour 20 = .ok (.iload_n 1, 1) := by decide +kernel
theorem dX3_neighbour_21 : decode cX3_neighbour 21 = .ok (.if_icmp .ne 6, 3) := by decide +kernel
theorem dX3_neighbour_24 : decode cX3_neighbour 24 = .ok (.goto 56, 3) := by decide +kernel
theorem dX3_neighbour_27 : decode cX3_neighbour 27 = .ok (.iconst 0, 1) := by decide +kernel
theorem dX3_neighbour_28 : decode cX3_neighbour 28 = .ok (.istore 4, 2) := by decide +kernel
theorem dX3_neighbour_30 : decode cX3_neighbour 30 = .ok (.iload 4, 2) := by decide +kernel
theorem dX3_neighbour_32 : decode cX3_neighbour 32 = .ok (.iconst 3, 1) := by decide +kernel
theorem dX3_neighbour_33 : decode cX3_neighbour 33 = .ok (.if_icmp .ge 47, 3) := by decide +kernel
theorem dX3_neighbour_36 : decode cX3_neighbour 36 = .ok (.aload_n 0, 1) := by decide +kernel
theorem dX3_neighbour_37 : decode cX3_neighbour 37 = .ok (.iload_n 3, 1) := by decide +kernel
theorem dX3_neighbour_38 : decode cX3_neighbour 38 = .ok (.iload 4, 2) := by decide +kernel
theorem dX3_neighbour_40 : decode cX3_neighbour 40 = .ok (.invokevirtual 50, 3) := by decide +kernel
theorem dX3_neighbour_43 : decode cX3_neighbour 43 = .ok (.aload_n 0, 1) := by decide +kernel
theorem dX3_neighbour_44 : decode cX3_neighbour 44 = .ok (.iload_n 1, 1) := by decide +kernel
theorem dX3_neighbour_45 : decode cX3_neighbour 45 = .ok (.iload_n 2, 1) := by decide +kernel
theorem dX3_neighbour_46 : decode cX3_neighbour 46 = .ok (.iconst 1, 1) := by decide +kernel
theorem dX3_neighbour_47 : decode cX3_neighbour 47 = .ok (.iadd, 1) := by decide +kernel
theorem dX3_neighbour_48 : decode cX3_neighbour 48 = .ok (.invokevirtual 50, 3) := by decide +kernel
theorem dX3_neighbour_51 : decode cX3_neighbour 51 = .ok (.if_icmp .ne 23, 3) := by decide +kernel
theorem dX3_neighbour_54 : decode cX3_neighbour 54 = .ok (.aload_n 0, 1) := by decide +kernel
theorem dX3_neighbour_55 : decode cX3_neighbour 55 = .ok (.iload_n 3, 1) := by decide +kernel
theorem dX3_neighbour_56 : decode cX3_neighbour 56 = .ok (.iload 4, 2) := by decide +kernel
theorem dX3_neighbour_58 : decode cX3_neighbour 58 = .ok (.iconst 1, 1) := by decide +kernel
theorem dX3_neighbour_59 : decode cX3_neighbour 59 = .ok (.iadd, 1) := by decide +kernel
theorem dX3_neighbour_60 : decode cX3_neighbour 60 = .ok (.invokevirtual 50, 3) := by decide +kernel
theorem dX3_neighbour_63 : decode cX3_neighbour 63 = .ok (.aload_n 0, 1) := by decide +kernel
theorem dX3_neighbour_64 : decode cX3_neighbour 64 = .ok (.iload_n 1, 1) := by decide +kernel
theorem dX3_neighbour_65 : decode cX3_neighbour 65 = .ok (.iload_n 2, 1) := by decide +kernel
theorem dX3_neighbour_66 : decode cX3_neighbour 66 = .ok (.invokevirtual 50, 3) := by decide +kernel
theorem dX3_neighbour_69 : decode cX3_neighbour 69 = .ok (.if_icmp .ne 5, 3) := by decide +kernel
theorem dX3_neighbour_72 : decode cX3_neighbour 72 = .ok (.iload_n 3, 1) := by decide +kernel
theorem dX3_neighbour_73 : decode cX3_neighbour 73 = .ok (.ireturn, 1) := by decide +kernel
theorem dX3_neighbour_74 : decode cX3_neighbour 74 = .ok (.iinc 4 1, 3) := by decide +kernel
theorem dX3_neighbour_77 : decode cX3_neighbour 77 = .ok (.goto (-47), 3) := by decide +kernel
theorem dX3_neighbour_80 : decode cX3_neighbour 80 = .ok (.iinc 3 1, 3) := by decide +kernel
theorem dX3_neighbour_83 : decode cX3_neighbour 83 = .ok (.goto (-81), 3) := by decide +kernel
theorem dX3_neighbour_86 : decode cX3_neighbour 86 = .ok (.iconst (-1), 1) := by decide +kernel
theorem dX3_neighbour_87 : decode cX3_neighbour 87 = .ok (.ireturn, 1) := by decide +kernel
set_option maxRecDepth 20000 in
theorem ggX3_beyond_X3_at : GoodIn wsX3_beyond wsX3_at := goodIn_r _ [5, 6, 7, 8, 9, 10, 11, 12, 13, 14, 15, 16, 17] (by decide +kernel) (by decide +kernel)
set_option maxRecDepth 20000 in
theorem gX3_beyond_X3_at : GoodIn wsX3_beyond (wsV RX3 50 RX3 yX3_at wsX3_at) := goodIn_app (goodIn_of _ (by decide +kernel)) ggX3_beyond_X3_at
theorem dX3_beyond_0 : decode cX3_beyond 0 = .ok (.iconst 0, 1) := by decide +kernel
theorem dX3_beyond_1 : decode cX3_beyond 1 = .ok (.istore 4, 2) := by decide +kernel
theorem dX3_beyond_3 : decode cX3_beyond 3 = .ok (.iload 4, 2) := by decide +kernel
theorem dX3_beyond_5 : decode cX3_beyond 5 = .ok (.iconst 3, 1) := by decide +kernel
theorem dX3_beyond_6 : decode cX3_beyond 6 = .ok (.if_icmp .ge 55, 3) := by decide +kernel
theorem dX3_beyond_9 : decode cX3_beyond 9 = .ok (.aload_n 0, 1) := by decide +kernel
theorem dX3_beyond_10 : decode cX3_beyond 10 = .ok (.iload_n 3, 1) := by decide +kernel
theorem dX3_beyond_11 : decode cX3_beyond 11 = .ok (.iload 4, 2) := by decide +kernel
theorem dX3_beyond_13 : decode cX3_beyond 13 = .ok (.invokevirtual 50, 3) := by decide +kernel
theorem dX3_beyond_16 : decode cX3_beyond 16 = .ok (.aload_n 0, 1) := by decide +kernel
theorem dX3_beyond_17 : decode cX3_beyond 17 = .ok (.iload_n 1, 1) := by decide +kernel
theorem dX3_beyond_18 : decode cX3_beyond 18 = .ok (.iload_n 2, 1) := by decide +kernel
theorem dX3_beyond_19 : decode cX3_beyond 19 = .ok (.iconst 1, 1) := by decide +kernel
theorem dX3_beyond_20 : decode cX3_beyond 20 = .ok (.iadd, 1) := by decide +kernel
theorem dX3_beyond_21 : decode cX3_beyond 21 = .ok (.invokevirtual 50, 3) := by decide +kernel
theorem dX3_beyond_24 : decode cX3_beyond 24 = .ok (.if_icmp .ne 31, 3) := by decide +kernel
theorem dX3_beyond_27 : decode cX3_beyond 27 = .ok (.aload_n 0, 1) := by decide +kernel
theorem dX3_beyond_28 : decode cX3_beyond 28 = .ok (.iload_n 3, 1) := by decide +kernel
theorem dX3_beyond_29 : decode cX3_beyond 29 = .ok (.iload 4, 2) := by decide +kernel
theorem dX3_beyond_31 : decode cX3_beyond 31 = .ok (.iconst 1, 1) := by decide +kernel
theorem dX3_beyond_32 : decode cX3_beyond 32 = .ok (.iadd, 1) := by decide +kernel
theorem dX3_beyond_33 : decode cX3_beyond 33 = .ok (.invokevirtual 50, 3) := by decide +kernel
theorem dX3_beyond_36 : decode cX3_beyond 36 = .ok (.aload_n 0, 1) := by decide +kernel
theorem dX3_beyond_37 : decode cX3_beyond 37 = .ok (.iload_n 1, 1) := by decide +kernel
theorem dX3_beyond_38 : decode cX3_beyond 38 = .ok (.iload_n 2, 1) := by decide +kernel
theorem dX3_beyond_39 : decode cX3_beyond 39 = .ok (.invokevirtual 50, 3) := by decide +kernel
theorem dX3_beyond_42 : decode cX3_beyond 42 = .ok (.if_icmp .ne 13, 3) := by decide +kernel
theorem dX3_beyond_45 : decode cX3_beyond 45 = .ok (.aload_n 0, 1) := by decide +kernel
theorem dX3_beyond_46 : decode cX3_beyond 46 = .ok (.iload_n 3, 1) := by decide +kernel
theorem dX3_beyond_47 : decode cX3_beyond 47 = .ok (.iload 4, 2) := by decide +kernel
theorem dX3_beyond_49 : decode cX3_beyond 49 = .ok (.iconst 2, 1) := by decide +kernel
theorem dX3_beyond_50 : decode cX3_beyond 50 = .ok (.iadd, 1) := by decide +kernel
theorem dX3_beyond_51 : decode cX3_beyond 51 = .ok (.invokevirtual 50, 3) := by decide +kernel
theorem dX3_beyond_54 : decode cX3_beyond 54 = .ok (.ireturn, 1) := by decide +kernel
theorem dX3_beyond_55 : decode cX3_beyond 55 = .ok (.iinc 4 1, 3) := by decide +kernel
theorem dX3_beyond_58 : decode cX3_beyond 58 = .ok (.goto (-55), 3) := by decide +kernel
theorem dX3_beyond_61 : decode cX3_beyond 61 = .ok (.iconst (-1), 1) := by decide +kernel
theorem dX3_beyond_62 : decode cX3_beyond 62 = .ok (.ireturn, 1) := by decide +kernel
theorem dX3_determinant_0 : decode cX3_determinant 0 = .ok (.lload_n 0, 1) := by decide +kernel
theorem dX3_determinant_1 : decode cX3_determinant 1 = .ok (.lload 8, 2) := by decide +kernel
theorem dX3_determinant_3 : decode cX3_determinant 3 = .ok (.lload 16, 2) := by decide +kernel
theorem dX3_determinant_5 : decode cX3_determinant 5 = .ok (.lmul, 1) := by decide +kernel
theorem dX3_determinant_6 : decode cX3_determinant 6 = .ok (.lload 10, 2) := by decide +kernel
theorem dX3_determinant_8 : decode cX3_determinant 8 = .ok (.lload 14, 2) := by decide +kernel
theorem dX3_determinant_10 : decode cX3_determinant 10 = .ok (.lmul, 1) := by decide +kernel
theorem dX3_determinant_11 : decode cX3_determinant 11 = .ok (.lsub, 1) := by decide +kernel
theorem dX3_determinant_12 : decode cX3_determinant 12 = .ok (.lmul, 1) := by decide +kernel
theorem dX3_determinant_13 : decode cX3_determinant 13 = .ok (.lload_n 2, 1) := by decide +kernel
theorem dX3_determinant_14 : decode cX3_determinant 14 = .ok (.lload 6, 2) := by decide +kernel
theorem dX3_determinant_16 : decode cX3_determinant 16 = .ok (.lload 16, 2) := by decide +kernel
theorem dX3_determinant_18 : decode cX3_determinant 18 = .ok (.lmul, 1) := by decide +kernel
theorem dX3_determinant_19 : decode cX3_determinant 19 = .ok (.lload 10, 2) := by decide +kernel
theorem dX3_determinant_21 : decode cX3_determinant 21 = .ok (.lload 12, 2) := by decide +kernel
theorem dX3_determinant_23 : decode cX3_determinant 23 = .ok (.lmul, 1) := by decide +kernel
theorem dX3_determinant_24 : decode cX3_determinant 24 = .ok (.lsub, 1) := by decide +kernel
theorem dX3_determinant_25 : decode cX3_determinant 25 = .ok (.lmul, 1) := by decide +kernel
theorem dX3_determinant_26 : decode cX3_determinant 26 = .ok (.lsub, 1) := by decide +kernel
theorem dX3_determinant_27 : decode cX3_determinant 27 = .ok (.lload 4, 2) := by decide +kernel
theorem dX3_determinant_29 : decode cX3_determinant 29 = .ok (.lload 6, 2) := by decide +kernel
theorem dX3_determinant_31 : decode cX3_determinant 31 = .ok (.lload 14, 2) := by decide +kernel
theorem dX3_determinant_33 : decode cX3_determinant 33 = .ok (.lmul, 1) := by decide +kernel
theorem dX3_determinant_34 : decode cX3_determinant 34 = .ok (.lload 8, 2) := by decide +kernel
theorem dX3_determinant_36 : decode cX3_determinant 36 = .ok (.lload 12, 2) := by decide +kernel
theorem dX3_determinant_38 : decode cX3_determinant 38 = .ok (.lmul, 1) := by decide +kernel
theorem dX3_determinant_39 : decode cX3_determinant 39 = .ok (.lsub, 1) := by decide +kernel
theorem dX3_determinant_40 : decode cX3_determinant 40 = .ok (.lmul, 1) := by decide +kernel
theorem dX3_determinant_41 : decode cX3_determinant 41 = .ok (.ladd, 1) := by decide +kernel
theorem dX3_determinant_42 : decode cX3_determinant 42 = .ok (.lreturn, 1) := by decide +kernel
set_option maxRecDepth 20000 in
theorem ggX3_good_X3_neighbour : GoodIn wsX3_good wsX3_neighbour := goodIn_r _ [7, 8, 9, 10, 11, 12, 6, 13, 14, 22, 23, 24, 25, 26, 27, 28, 29, 30, 31, 32] (by decide +kernel) (by decide +kernel)
set_option maxRecDepth 20000 in
theorem gX3_good_X3_neighbour : GoodIn wsX3_good (wsV RX3 91 RX3 yX3_neighbour wsX3_neighbour) := goodIn_app (goodIn_of _ (by decide +kernel)) ggX3_good_X3_neighbour
set_option maxRecDepth 20000 in
theorem ggX3_good_X3_beyond : GoodIn wsX3_good wsX3_beyond := goodIn_r _ [18, 10, 11, 12, 6, 13, 14, 22, 23, 24, 25, 26, 27, 28, 29, 30, 31, 32] (by decide +kernel) (by decide +kernel)
set_option maxRecDepth 20000 in
theorem gX3_good_X3_beyond : GoodIn wsX3_good (wsV RX3 94 RX3 yX3_beyond wsX3_beyond) := goodIn_app (goodIn_of _ (by decide +kernel)) ggX3_good_X3_beyond
set_option maxRecDepth 20000 in
theorem ggX3_good_X3_at : GoodIn wsX3_good wsX3_at := goodIn_r _ [13, 14, 22, 23, 24, 25, 26, 27, 28, 29, 30, 31, 32] (by decide +kernel) (by decide +kernel)
set_option maxRecDepth 20000 in
theorem gX3_good_X3_at : GoodIn wsX3_good (wsV RX3 50 RX3 yX3_at wsX3_at) := goodIn_app (goodIn_of _ (by decide +kernel)) ggX3_good_X3_at
set_option maxRecDepth 20000 in
theorem ggX3_good_X3_determinant : GoodIn wsX3_good wsX3_determinant := goodIn_r _ [21] (by decide +kernel) (by decide +kernel)
set_option maxRecDepth 20000 in
theorem gX3_good_X3_determinant : GoodIn wsX3_good (va_wsS RX3 98 yX3_determinant wsX3_determinant) := goodIn_app (goodIn_of _ (by decide +kernel)) ggX3_good_X3_determinant
theorem dX3_good_0 : decode cX3_good 0 = .ok (.aload_n 0, 1) := by decide +kernel
theorem dX3_good_1 : decode cX3_good 1 = .ok (.iload_n 1, 1) := by decide +kernel
theorem dX3_good_2 : decode cX3_good 2 = .ok (.iload_n 2, 1) := by decide +kernel
theorem dX3_good_3 : decode cX3_good 3 = .ok (.invokevirtual 91, 3) := by decide +kernel
theorem dX3_good_6 : decode cX3_good 6 = .ok (.istore_n 3, 1) := by decide +kernel
theorem dX3_good_7 : decode cX3_good 7 = .ok (.iload_n 3, 1) := by decide +kernel
theorem dX3_good_8 : decode cX3_good 8 = .ok (.iconst (-1), 1) := by decide +kernel
theorem dX3_good_9 : decode cX3_good 9 = .ok (.if_icmp .ne 5, 3) := by decide +kernel
theorem dX3_good_12 : decode cX3_good 12 = .ok (.iconst 1, 1) := by decide +kernel
theorem dX3_good_13 : decode cX3_good 13 = .ok (.ireturn, 1) := by decide +kernel
theorem dX3_good_14 : decode cX3_good 14 = .ok (.aload_n 0, 1) := by decide +kernel
theorem dX3_good_15 : decode cX3_good 15 = .ok (.iload_n 1, 1) := by decide +kernel
theorem dX3_good_16 : decode cX3_good 16 = .ok (.iload_n 2, 1) := by decide +kernel
theorem dX3_good_17 : decode cX3_good 17 = .ok (.iload_n 3, 1) := by decide +kernel
theorem dX3_good_18 : decode cX3_good 18 = .ok (.invokevirtual 94, 3) := by decide +kernel
theorem dX3_good_21 : decode cX3_good 21 = .ok (.istore 4, 2) := by decide +kernel
theorem dX3_good_23 : decode cX3_good 23 = .ok (.aload_n 0, 1) := by decide +kernel
theorem dX3_good_24 : decode cX3_good 24 = .ok (.getfield 7, 3) := by decide +kernel
theorem dX3_good_27 : decode cX3_good 27 = .ok (.aload_n 0, 1) := by decide +kernel
theorem dX3_good_28 : decode cX3_good 28 = .ok (.iload_n 1, 1) := by decide +kernel
theorem dX3_good_29 : decode cX3_good 29 = .ok (.iload_n 2, 1) := by decide +kernel
theorem dX3_good_30 : decode cX3_good 30 = .ok (.invokevirtual 50, 3) := by decide +kernel
theorem dX3_good_33 : decode cX3_good 33 = .ok (.iaload, 1) := by decide +kernel
theorem dX3_good_34 : decode cX3_good 34 = .ok (.aload_n 0, 1) := by decide +kernel
theorem dX3_good_35 : decode cX3_good 35 = .ok (.getfield 7, 3) := by decide +kernel
theorem dX3_good_38 : decode cX3_good 38 = .ok (.iload 4, 2) := by decide +kernel
theorem dX3_good_40 : decode cX3_good 40 = .ok (.iaload, 1) := by decide +kernel
theorem dX3_good_41 : decode cX3_good 41 = .ok (.isub, 1) := by decide +kernel
theorem dX3_good_42 : decode cX3_good 42 = .ok (.i2l, 1) := by decide +kernel
theorem dX3_good_43 : decode cX3_good 43 = .ok (.lstore 5, 2) := by decide +kernel
theorem dX3_good_45 : decode cX3_good 45 = .ok (.aload_n 0, 1) := by decide +kernel
theorem dX3_good_46 : decode cX3_good 46 = .ok (.getfield 13, 3) := by decide +kernel
theorem dX3_good_49 : decode cX3_good 49 = .ok (.aload_n 0, 1) := by decide +kernel
theorem dX3_good_50 : decode cX3_good 50 = .ok (.iload_n 1, 1) := by decide +kernel
theorem dX3_good_51 : decode cX3_good 51 = .ok (.iload_n 2, 1) := by decide +kernel
theorem dX3_good_52 : decode cX3_good 52 = .ok (.invokevirtual 50, 3) := by decide +kernel
theorem dX3_good_55 : decode cX3_good 55 = .ok (.iaload, 1) := by decide +kernel
theorem dX3_good_56 : decode cX3_good 56 = .ok (.aload_n 0, 1) := by decide +kernel
theorem dX3_good_57 : decode cX3_good 57 = .ok (.getfield 13, 3) := by decide +kernel
theorem dX3_good_60 : decode cX3_good 60 = .ok (.iload 4, 2) := by decide +kernel
theorem dX3_good_62 : decode cX3_good 62 = .ok (.iaload, 1) := by decide +kernel
