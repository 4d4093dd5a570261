theorem dX3_good_63 : decode cX3_good 63 = .ok (.isub, 1) := by decide +kernel
theorem dX3_good_64 : decode cX3_good 64 = .ok (.i2l, 1) := by decide +kernel
theorem dX3_good_65 : decode cX3_good 65 = .ok (.lstore 7, 2) := by decide +kernel
theorem dX3_good_67 : decode cX3_good 67 = .ok (.aload_n 0, 1) := by decide +kernel
theorem dX3_good_68 : decode cX3_good 68 = .ok (.getfield 7, 3) := by decide +kernel
theorem dX3_good_71 : decode cX3_good 71 = .ok (.aload_n 0, 1) := by decide +kernel
theorem dX3_good_72 : decode cX3_good 72 = .ok (.iload_n 1, 1) := by decide +kernel
theorem dX3_good_73 : decode cX3_good 73 = .ok (.iload_n 2, 1) := by decide +kernel
theorem dX3_good_74 : decode cX3_good 74 = .ok (.iconst 1, 1) := by decide +kernel
theorem dX3_good_75 : decode cX3_good 75 = .ok (.iadd, 1) := by decide +kernel
theorem dX3_good_76 : decode cX3_good 76 = .ok (.invokevirtual 50, 3) := by decide +kernel
theorem dX3_good_79 : decode cX3_good 79 = .ok (.iaload, 1) := by decide +kernel
theorem dX3_good_80 : decode cX3_good 80 = .ok (.aload_n 0, 1) := by decide +kernel
theorem dX3_good_81 : decode cX3_good 81 = .ok (.getfield 7, 3) := by decide +kernel
theorem dX3_good_84 : decode cX3_good 84 = .ok (.iload 4, 2) := by decide +kernel
theorem dX3_good_86 : decode cX3_good 86 = .ok (.iaload, 1) := by decide +kernel
theorem dX3_good_87 : decode cX3_good 87 = .ok (.isub, 1) := by decide +kernel
theorem dX3_good_88 : decode cX3_good 88 = .ok (.i2l, 1) := by decide +kernel
theorem dX3_good_89 : decode cX3_good 89 = .ok (.lstore 9, 2) := by decide +kernel
theorem dX3_good_91 : decode cX3_good 91 = .ok (.aload_n 0, 1) := by decide +kernel
theorem dX3_good_92 : decode cX3_good 92 = .ok (.getfield 13, 3) := by decide +kernel
theorem dX3_good_95 : decode cX3_good 95 = .ok (.aload_n 0, 1) := by decide +kernel
theorem dX3_good_96 : decode cX3_good 96 = .ok (.iload_n 1, 1) := by decide +kernel
theorem dX3_good_97 : decode cX3_good 97 = .ok (.iload_n 2, 1) := by decide +kernel
theorem dX3_good_98 : decode cX3_good 98 = .ok (.iconst 1, 1) := by decide +kernel
theorem dX3_good_99 : decode cX3_good 99 = .ok (.iadd, 1) := by decide +kernel
theorem dX3_good_100 : decode cX3_good 100 = .ok (.invokevirtual 50, 3) := by decide +kernel
theorem dX3_good_103 : decode cX3_good 103 = .ok (.iaload, 1) := by decide +kernel
theorem dX3_good_104 : decode cX3_good 104 = .ok (.aload_n 0, 1) := by decide +kernel
theorem dX3_good_105 : decode cX3_good 105 = .ok (.getfield 13, 3) := by decide +kernel
theorem dX3_good_108 : decode cX3_good 108 = .ok (.iload 4, 2) := by decide +kernel
theorem dX3_good_110 : decode cX3_good 110 = .ok (.iaload, 1) := by decide +kernel
theorem dX3_good_111 : decode cX3_good 111 = .ok (.isub, 1) := by decide +kernel
theorem dX3_good_112 : decode cX3_good 112 = .ok (.i2l, 1) := by decide +kernel
theorem dX3_good_113 : decode cX3_good 113 = .ok (.lstore 11, 2) := by decide +kernel
theorem dX3_good_115 : decode cX3_good 115 = .ok (.aload_n 0, 1) := by decide +kernel
theorem dX3_good_116 : decode cX3_good 116 = .ok (.getfield 7, 3) := by decide +kernel
theorem dX3_good_119 : decode cX3_good 119 = .ok (.aload_n 0, 1) := by decide +kernel
theorem dX3_good_120 : decode cX3_good 120 = .ok (.iload_n 1, 1) := by decide +kernel
theorem dX3_good_121 : decode cX3_good 121 = .ok (.iload_n 2, 1) := by decide +kernel
theorem dX3_good_122 : decode cX3_good 122 = .ok (.iconst 2, 1) := by decide +kernel
theorem dX3_good_123 : decode cX3_good 123 = .ok (.iadd, 1) := by decide +kernel
theorem dX3_good_124 : decode cX3_good 124 = .ok (.invokevirtual 50, 3) := by decide +kernel
theorem dX3_good_127 : decode cX3_good 127 = .ok (.iaload, 1) := by decide +kernel
theorem dX3_good_128 : decode cX3_good 128 = .ok (.aload_n 0, 1) := by decide +kernel
theorem dX3_good_129 : decode cX3_good 129 = .ok (.getfield 7, 3) := by decide +kernel
theorem dX3_good_132 : decode cX3_good 132 = .ok (.iload 4, 2) := by decide +kernel
theorem dX3_good_134 : decode cX3_good 134 = .ok (.iaload, 1) := by decide +kernel
theorem dX3_good_135 : decode cX3_good 135 = .ok (.isub, 1) := by decide +kernel
theorem dX3_good_136 : decode cX3_good 136 = .ok (.i2l, 1) := by decide +kernel
theorem dX3_good_137 : decode cX3_good 137 = .ok (.lstore 13, 2) := by decide +kernel
theorem dX3_good_139 : decode cX3_good 139 = .ok (.aload_n 0, 1) := by decide +kernel
theorem dX3_good_140 : decode cX3_good 140 = .ok (.getfield 13, 3) := by decide +kernel
theorem dX3_good_143 : decode cX3_good 143 = .ok (.aload_n 0, 1) := by decide +kernel
theorem dX3_good_144 : decode cX3_good 144 = .ok (.iload_n 1, 1) := by decide +kernel
theorem dX3_good_145 : decode cX3_good 145 = .ok (.iload_n 2, 1) := by decide +kernel
theorem dX3_good_146 : decode cX3_good 146 = .ok (.iconst 2, 1) := by decide +kernel
theorem dX3_good_147 : decode cX3_good 147 = .ok (.iadd, 1) := by decide +kernel
theorem dX3_good_148 : decode cX3_good 148 = .ok (.invokevirtual 50, 3) := by decide +kernel
theorem dX3_good_151 : decode cX3_good 151 = .ok (.iaload, 1) := by decide +kernel
theorem dX3_good_152 : decode cX3_good 152 = .ok (.aload_n 0, 1) := by decide +kernel
theorem dX3_good_153 : decode cX3_good 153 = .ok (.getfield 13, 3) := by decide +kernel
theorem dX3_good_156 : decode cX3_good 156 = .ok (.iload 4, 2) := by decide +kernel
theorem dX3_good_158 : decode cX3_good 158 = .ok (.iaload, 1) := by decide +kernel
theorem dX3_good_159 : decode cX3_good 159 = .ok (.isub, 1) := by decide +kernel
theorem dX3_good_160 : decode cX3_good 160 = .ok (.i2l, 1) := by decide +kernel
theorem dX3_good_161 : decode cX3_good 161 = .ok (.lstore 15, 2) := by decide +kernel
theorem dX3_good_163 : decode cX3_good 163 = .ok (.lload 5, 2) := by decide +kernel
theorem dX3_good_165 : decode cX3_good 165 = .ok (.lload 7, 2) := by decide +kernel
theorem dX3_good_167 : decode cX3_good 167 = .ok (.lload 5, 2) := by decide +kernel
theorem dX3_good_169 : decode cX3_good 169 = .ok (.lload 5, 2) := by decide +kernel
theorem dX3_good_171 : decode cX3_good 171 = .ok (.lmul, 1) := by decide +kernel
theorem dX3_good_172 : decode cX3_good 172 = .ok (.lload 7, 2) := by decide +kernel
theorem dX3_good_174 : decode cX3_good 174 = .ok (.lload 7, 2) := by decide +kernel
theorem dX3_good_176 : decode cX3_good 176 = .ok (.lmul, 1) := by decide +kernel
theorem dX3_good_177 : decode cX3_good 177 = .ok (.ladd, 1) := by decide +kernel
theorem dX3_good_178 : decode cX3_good 178 = .ok (.lload 9, 2) := by decide +kernel
theorem dX3_good_180 : decode cX3_good 180 = .ok (.lload 11, 2) := by decide +kernel
theorem dX3_good_182 : decode cX3_good 182 = .ok (.lload 9, 2) := by decide +kernel
theorem dX3_good_184 : decode cX3_good 184 = .ok (.lload 9, 2) := by decide +kernel
theorem dX3_good_186 : decode cX3_good 186 = .ok (.lmul, 1) := by decide +kernel
theorem dX3_good_187 : decode cX3_good 187 = .ok (.lload 11, 2) := by decide +kernel
theorem dX3_good_189 : decode cX3_good 189 = .ok (.lload 11, 2) := by decide +kernel
theorem dX3_good_191 : decode cX3_good 191 = .ok (.lmul, 1) := by decide +kernel
theorem dX3_good_192 : decode cX3_good 192 = .ok (.ladd, 1) := by decide +kernel
theorem dX3_good_193 : decode cX3_good 193 = .ok (.lload 13, 2) := by decide +kernel
theorem dX3_good_195 : decode cX3_good 195 = .ok (.lload 15, 2) := by decide +kernel
theorem dX3_good_197 : decode cX3_good 197 = .ok (.lload 13, 2) := by decide +kernel
theorem dX3_good_199 : decode cX3_good 199 = .ok (.lload 13, 2) := by decide +kernel
theorem dX3_good_201 : decode cX3_good 201 = .ok (.lmul, 1) := by decide +kernel
theorem dX3_good_202 : decode cX3_good 202 = .ok (.lload 15, 2) := by decide +kernel
theorem dX3_good_204 : decode cX3_good 204 = .ok (.lload 15, 2) := by decide +kernel
theorem dX3_good_206 : decode cX3_good 206 = .ok (.lmul, 1) := by decide +kernel
theorem dX3_good_207 : decode cX3_good 207 = .ok (.ladd, 1) := by decide +kernel
theorem dX3_good_208 : decode cX3_good 208 = .ok (.invokestatic 98, 3) := by decide +kernel
theorem dX3_good_211 : decode cX3_good 211 = .ok (.lconst 0, 1) := by decide +kernel
theorem dX3_good_212 : decode cX3_good 212 = .ok (.lcmp, 1) := by decide +kernel
theorem dX3_good_213 : decode cX3_good 213 = .ok (.ifCond .gt 7, 3) := by decide +kernel
theorem dX3_good_216 : decode cX3_good 216 = .ok (.iconst 1, 1) := by decide +kernel
theorem dX3_good_217 : decode cX3_good 217 = .ok (.goto 4, 3) := by decide +kernel
theorem dX3_good_220 : decode cX3_good 220 = .ok (.iconst 0, 1) := by decide +kernel
theorem dX3_good_221 : decode cX3_good 221 = .ok (.ireturn, 1) := by decide +kernel
theorem dX3_set_0 : decode cX3_set 0 = .ok (.aload_n 0, 1) := by decide +kernel
theorem dX3_set_1 : decode cX3_set 1 = .ok (.getfield 20, 3) := by decide +kernel
theorem dX3_set_4 : decode cX3_set 4 = .ok (.iconst 3, 1) := by decide +kernel
theorem dX3_set_5 : decode cX3_set 5 = .ok (.iload_n 1, 1) := by decide +kernel
theorem dX3_set_6 : decode cX3_set 6 = .ok (.imul, 1) := by decide +kernel
theorem dX3_set_7 : decode cX3_set 7 = .ok (.iload_n 2, 1) := by decide +kernel
theorem dX3_set_8 : decode cX3_set 8 = .ok (.iastore, 1) := by decide +kernel
theorem dX3_set_9 : decode cX3_set 9 = .ok (.aload_n 0, 1) := by decide +kernel
theorem dX3_set_10 : decode cX3_set 10 = .ok (.getfield 20, 3) := by decide +kernel
theorem dX3_set_13 : decode cX3_set 13 = .ok (.iconst 3, 1) := by decide +kernel
theorem dX3_set_14 : decode cX3_set 14 = .ok (.iload_n 1, 1) := by decide +kernel
theorem dX3_set_15 : decode cX3_set 15 = .ok (.imul, 1) := by decide +kernel
theorem dX3_set_16 : decode cX3_set 16 = .ok (.iconst 1, 1) := by decide +kernel
theorem dX3_set_17 : decode cX3_set 17 = .ok (.iadd, 1) := by decide +kernel
theorem dX3_set_18 : decode cX3_set 18 = .ok (.iload_n 3, 1) := by decide +kernel
theorem dX3_set_19 : decode cX3_set 19 = .ok (.iastore, 1) := by decide +kernel
theorem dX3_set_20 : decode cX3_set 20 = .ok (.aload_n 0, 1) := by decide +kernel
theorem dX3_set_21 : decode cX3_set 21 = .ok (.getfield 20, 3) := by decide +kernel
theorem dX3_set_24 : decode cX3_set 24 = .ok (.iconst 3, 1) := by decide +kernel
theorem dX3_set_25 : decode cX3_set 25 = .ok (.iload_n 1, 1) := by decide +kernel
theorem dX3_set_26 : decode cX3_set 26 = .ok (.imul, 1) := by decide +kernel
theorem dX3_set_27 : decode cX3_set 27 = .ok (.iconst 2, 1) := by decide +kernel
theorem dX3_set_28 : decode cX3_set 28 = .ok (.iadd, 1) := by decide +kernel
theorem dX3_set_29 : decode cX3_set 29 = .ok (.iload 4, 2) := by decide +kernel
theorem dX3_set_31 : decode cX3_set 31 = .ok (.iastore, 1) := by decide +kernel
theorem dX3_set_32 : decode cX3_set 32 = .ok (.return_, 1) := by decide +kernel
set_option maxRecDepth 20000 in
theorem ggX3_turned_X3_neighbour : GoodIn wsX3_turned wsX3_neighbour := goodIn_r _ [5, 6, 7, 8, 9, 10, 4, 11, 12, 30, 31, 32, 33, 34, 35, 36, 37, 38, 39, 40] (by decide +kernel) (by decide +kernel)
set_option maxRecDepth 20000 in
theorem gX3_turned_X3_neighbour : GoodIn wsX3_turned (wsV RX3 91 RX3 yX3_neighbour wsX3_neighbour) := goodIn_app (goodIn_of _ (by decide +kernel)) ggX3_turned_X3_neighbour
set_option maxRecDepth 20000 in
theorem ggX3_turned_X3_at : GoodIn wsX3_turned wsX3_at := goodIn_r _ [11, 12, 30, 31, 32, 33, 34, 35, 36, 37, 38, 39, 40] (by decide +kernel) (by decide +kernel)
set_option maxRecDepth 20000 in
theorem gX3_turned_X3_at : GoodIn wsX3_turned (wsV RX3 50 RX3 yX3_at wsX3_at) := goodIn_app (goodIn_of _ (by decide +kernel)) ggX3_turned_X3_at
set_option maxRecDepth 20000 in
theorem ggX3_turned_X3_beyond : GoodIn wsX3_turned wsX3_beyond := goodIn_r _ [16, 8, 9, 10, 4, 11, 12, 30, 31, 32, 33, 34, 35, 36, 37, 38, 39, 40] (by decide +kernel) (by decide +kernel)
set_option maxRecDepth 20000 in
theorem gX3_turned_X3_beyond : GoodIn wsX3_turned (wsV RX3 94 RX3 yX3_beyond wsX3_beyond) := goodIn_app (goodIn_of _ (by decide +kernel)) ggX3_turned_X3_beyond
set_option maxRecDepth 20000 in
theorem ggX3_turned_X3_turnOfPoints : GoodIn wsX3_turned wsX3_turnOfPoints := goodIn_r _ [20, 21, 22, 23, 24, 4, 25, 30, 31, 32, 33, 34, 35, 36, 37, 38, 39, 40] (by decide +kernel) (by decide +kernel)
set_option maxRecDepth 20000 in
theorem gX3_turned_X3_turnOfPoints : GoodIn wsX3_turned (wsV RX3 54 RX3 yX3_turnOfPoints wsX3_turnOfPoints) := goodIn_app (goodIn_of _ (by decide +kernel)) ggX3_turned_X3_turnOfPoints
set_option maxRecDepth 20000 in
theorem ggX3_turned_X3_set : GoodIn wsX3_turned wsX3_set := goodIn_r _ [29, 12, 30, 31, 32, 33, 34, 35, 36, 37, 38, 39, 40] (by decide +kernel) (by decide +kernel)
set_option maxRecDepth 20000 in
theorem gX3_turned_X3_set : GoodIn wsX3_turned (wsV RX3 102 RX3 yX3_set wsX3_set) := goodIn_app (goodIn_of _ (by decide +kernel)) ggX3_turned_X3_set
theorem dX3_turned_0 : decode cX3_turned 0 = .ok (.aload_n 0, 1) := by decide +kernel
theorem dX3_turned_1 : decode cX3_turned 1 = .ok (.iload_n 1, 1) := by decide +kernel
theorem dX3_turned_2 : decode cX3_turned 2 = .ok (.iload_n 2, 1) := by decide +kernel
theorem dX3_turned_3 : decode cX3_turned 3 = .ok (.invokevirtual 91, 3) := by decide +kernel
theorem dX3_turned_6 : decode cX3_turned 6 = .ok (.istore_n 3, 1) := by decide +kernel
theorem dX3_turned_7 : decode cX3_turned 7 = .ok (.iload_n 3, 1) := by decide +kernel
theorem dX3_turned_8 : decode cX3_turned 8 = .ok (.iconst (-1), 1) := by decide +kernel
theorem dX3_turned_9 : decode cX3_turned 9 = .ok (.if_icmp .ne 5, 3) := by decide +kernel
theorem dX3_turned_12 : decode cX3_turned 12 = .ok (.iconst 0, 1) := by decide +kernel
theorem dX3_turned_13 : decode cX3_turned 13 = .ok (.ireturn, 1) := by decide +kernel
theorem dX3_turned_14 : decode cX3_turned 14 = .ok (.aload_n 0, 1) := by decide +kernel
theorem dX3_turned_15 : decode cX3_turned 15 = .ok (.iload_n 1, 1) := by decide +kernel
theorem dX3_turned_16 : decode cX3_turned 16 = .ok (.iload_n 2, 1) := by decide +kernel
theorem dX3_turned_17 : decode cX3_turned 17 = .ok (.invokevirtual 50, 3) := by decide +kernel
theorem dX3_turned_20 : decode cX3_turned 20 = .ok (.istore 4, 2) := by decide +kernel
theorem dX3_turned_22 : decode cX3_turned 22 = .ok (.aload_n 0, 1) := by decide +kernel
theorem dX3_turned_23 : decode cX3_turned 23 = .ok (.iload_n 1, 1) := by decide +kernel
theorem dX3_turned_24 : decode cX3_turned 24 = .ok (.iload_n 2, 1) := by decide +kernel
theorem dX3_turned_25 : decode cX3_turned 25 = .ok (.iconst 1, 1) := by decide +kernel
theorem dX3_turned_26 : decode cX3_turned 26 = .ok (.iadd, 1) := by decide +kernel
theorem dX3_turned_27 : decode cX3_turned 27 = .ok (.invokevirtual 50, 3) := by decide +kernel
theorem dX3_turned_30 : decode cX3_turned 30 = .ok (.istore 5, 2) := by decide +kernel
theorem dX3_turned_32 : decode cX3_turned 32 = .ok (.aload_n 0, 1) := by decide +kernel
theorem dX3_turned_33 : decode cX3_turned 33 = .ok (.iload_n 1, 1) := by decide +kernel
theorem dX3_turned_34 : decode cX3_turned 34 = .ok (.iload_n 2, 1) := by decide +kernel
theorem dX3_turned_35 : decode cX3_turned 35 = .ok (.iconst 2, 1) := by decide +kernel
theorem dX3_turned_36 : decode cX3_turned 36 = .ok (.iadd, 1) := by decide +kernel
theorem dX3_turned_37 : decode cX3_turned 37 = .ok (.invokevirtual 50, 3) := by decide +kernel
theorem dX3_turned_40 : decode cX3_turned 40 = .ok (.istore 6, 2) := by decide +kernel
theorem dX3_turned_42 : decode cX3_turned 42 = .ok (.aload_n 0, 1) := by decide +kernel
theorem dX3_turned_43 : decode cX3_turned 43 = .ok (.iload_n 1, 1) := by decide +kernel
theorem dX3_turned_44 : decode cX3_turned 44 = .ok (.iload_n 2, 1) := by decide +kernel
theorem dX3_turned_45 : decode cX3_turned 45 = .ok (.iload_n 3, 1) := by decide +kernel
theorem dX3_turned_46 : decode cX3_turned 46 = .ok (.invokevirtual 94, 3) := by decide +kernel
theorem dX3_turned_49 : decode cX3_turned 49 = .ok (.istore 7, 2) := by decide +kernel
theorem dX3_turned_51 : decode cX3_turned 51 = .ok (.aload_n 0, 1) := by decide +kernel
theorem dX3_turned_52 : decode cX3_turned 52 = .ok (.iload 4, 2) := by decide +kernel
theorem dX3_turned_54 : decode cX3_turned 54 = .ok (.iload 7, 2) := by decide +kernel
theorem dX3_turned_56 : decode cX3_turned 56 = .ok (.iload 6, 2) := by decide +kernel
theorem dX3_turned_58 : decode cX3_turned 58 = .ok (.invokevirtual 54, 3) := by decide +kernel
theorem dX3_turned_61 : decode cX3_turned 61 = .ok (.lconst 0, 1) := by decide +kernel
theorem dX3_turned_62 : decode cX3_turned 62 = .ok (.lcmp, 1) := by decide +kernel
theorem dX3_turned_63 : decode cX3_turned 63 = .ok (.ifCond .le 18, 3) := by decide +kernel
theorem dX3_turned_66 : decode cX3_turned 66 = .ok (.aload_n 0, 1) := by decide +kernel
theorem dX3_turned_67 : decode cX3_turned 67 = .ok (.iload 7, 2) := by decide +kernel
theorem dX3_turned_69 : decode cX3_turned 69 = .ok (.iload 5, 2) := by decide +kernel
theorem dX3_turned_71 : decode cX3_turned 71 = .ok (.iload 6, 2) := by decide +kernel
theorem dX3_turned_73 : decode cX3_turned 73 = .ok (.invokevirtual 54, 3) := by decide +kernel
theorem dX3_turned_76 : decode cX3_turned 76 = .ok (.lconst 0, 1) := by decide +kernel
theorem dX3_turned_77 : decode cX3_turned 77 = .ok (.lcmp, 1) := by decide +kernel
theorem dX3_turned_78 : decode cX3_turned 78 = .ok (.ifCond .gt 5, 3) := by decide +kernel
theorem dX3_turned_81 : decode cX3_turned 81 = .ok (.iconst 0, 1) := by decide +kernel
theorem dX3_turned_82 : decode cX3_turned 82 = .ok (.ireturn, 1) := by decide +kernel
theorem dX3_turned_83 : decode cX3_turned 83 = .ok (.aload_n 0, 1) := by decide +kernel
theorem dX3_turned_84 : decode cX3_turned 84 = .ok (.iload_n 1, 1) := by decide +kernel
theorem dX3_turned_85 : decode cX3_turned 85 = .ok (.iload 6, 2) := by decide +kernel
theorem dX3_turned_87 : decode cX3_turned 87 = .ok (.iload 4, 2) := by decide +kernel
theorem dX3_turned_89 : decode cX3_turned 89 = .ok (.iload 7, 2) := by decide +kernel
theorem dX3_turned_91 : decode cX3_turned 91 = .ok (.invokevirtual 102, 3) := by decide +kernel
theorem dX3_turned_94 : decode cX3_turned 94 = .ok (.aload_n 0, 1) := by decide +kernel
theorem dX3_turned_95 : decode cX3_turned 95 = .ok (.iload_n 3, 1) := by decide +kernel
theorem dX3_turned_96 : decode cX3_turned 96 = .ok (.iload 7, 2) := by decide +kernel
theorem dX3_turned_98 : decode cX3_turned 98 = .ok (.iload 5, 2) := by decide +kernel
theorem dX3_turned_100 : decode cX3_turned 100 = .ok (.iload 6, 2) := by decide +kernel
theorem dX3_turned_102 : decode cX3_turned 102 = .ok (.invokevirtual 102, 3) := by decide +kernel
theorem dX3_turned_105 : decode cX3_turned 105 = .ok (.iconst 1, 1) := by decide +kernel
theorem dX3_turned_106 : decode cX3_turned 106 = .ok (.ireturn, 1) := by decide +kernel
set_option maxRecDepth 20000 in
theorem ggX3_isPlace_X3_in : GoodIn wsX3_isPlace wsX3_in := goodIn_r _ [4] (by decide +kernel) (by decide +kernel)
set_option maxRecDepth 20000 in
theorem gX3_isPlace_X3_in : GoodIn wsX3_isPlace (va_wsS RX3 46 yX3_in wsX3_in) := goodIn_app (goodIn_of _ (by decide +kernel)) ggX3_isPlace_X3_in
theorem dX3_isPlace_0 : decode cX3_isPlace 0 = .ok (.iload_n 0, 1) := by decide +kernel
theorem dX3_isPlace_1 : decode cX3_isPlace 1 = .ok (.sipush 512, 3) := by decide +kernel
theorem dX3_isPlace_4 : decode cX3_isPlace 4 = .ok (.invokestatic 46, 3) := by decide +kernel
theorem dX3_isPlace_7 : decode cX3_isPlace 7 = .ok (.ifCond .eq 17, 3) := by decide +kernel
theorem dX3_isPlace_10 : decode cX3_isPlace 10 = .ok (.iload_n 1, 1) := by decide +kernel
theorem dX3_isPlace_11 : decode cX3_isPlace 11 = .ok (.sipush 512, 3) := by decide +kernel
theorem dX3_isPlace_14 : decode cX3_isPlace 14 = .ok (.invokestatic 46, 3) := by decide +kernel
theorem dX3_isPlace_17 : decode cX3_isPlace 17 = .ok (.ifCond .eq 7, 3) := by decide +kernel
theorem dX3_isPlace_20 : decode cX3_isPlace 20 = .ok (.iconst 1, 1) := by decide +kernel
theorem dX3_isPlace_21 : decode cX3_isPlace 21 = .ok (.goto 4, 3) := by decide +kernel
theorem dX3_isPlace_24 : decode cX3_isPlace 24 = .ok (.iconst 0, 1) := by decide +kernel
theorem dX3_isPlace_25 : decode cX3_isPlace 25 = .ok (.ireturn, 1) := by decide +kernel
set_option maxRecDepth 20000 in
theorem ggX3_point_X3_isPlace : GoodIn wsX3_point wsX3_isPlace := goodIn_r _ [8, 9, 10, 7, 11] (by decide +kernel) (by decide +kernel)
set_option maxRecDepth 20000 in
theorem gX3_point_X3_isPlace : GoodIn wsX3_point (va_wsS RX3 106 yX3_isPlace wsX3_isPlace) := goodIn_app (goodIn_of _ (by decide +kernel)) ggX3_point_X3_isPlace
set_option maxRecDepth 20000 in
theorem ggX3_point_X3_pointAt : GoodIn wsX3_point wsX3_pointAt := goodIn_r _ [15, 1, 3, 4, 16, 17, 18, 19, 20, 21, 22, 23, 24, 25, 26] (by decide +kernel) (by decide +kernel)
set_option maxRecDepth 20000 in
theorem gX3_point_X3_pointAt : GoodIn wsX3_point (wsV RX3 109 RX3 yX3_pointAt wsX3_pointAt) := goodIn_app (goodIn_of _ (by decide +kernel)) ggX3_point_X3_pointAt
theorem dX3_point_0 : decode cX3_point 0 = .ok (.aload_n 0, 1) := by decide +kernel
theorem dX3_point_1 : decode cX3_point 1 = .ok (.iload_n 1, 1) := by decide +kernel
theorem dX3_point_2 : decode cX3_point 2 = .ok (.iload_n 2, 1) := by decide +kernel
theorem dX3_point_3 : decode cX3_point 3 = .ok (.invokestatic 106, 3) := by decide +kernel
theorem dX3_point_6 : decode cX3_point 6 = .ok (.ifCond .ne 7, 3) := by decide +kernel
theorem dX3_point_9 : decode cX3_point 9 = .ok (.iconst 1, 1) := by decide +kernel
theorem dX3_point_10 : decode cX3_point 10 = .ok (.goto 27, 3) := by decide +kernel
theorem dX3_point_13 : decode cX3_point 13 = .ok (.aload_n 0, 1) := by decide +kernel
theorem dX3_point_14 : decode cX3_point 14 = .ok (.iload_n 1, 1) := by decide +kernel
theorem dX3_point_15 : decode cX3_point 15 = .ok (.iload_n 2, 1) := by decide +kernel
theorem dX3_point_16 : decode cX3_point 16 = .ok (.invokevirtual 109, 3) := by decide +kernel
theorem dX3_point_19 : decode cX3_point 19 = .ok (.iconst (-1), 1) := by decide +kernel
theorem dX3_point_20 : decode cX3_point 20 = .ok (.if_icmp .ne 12, 3) := by decide +kernel
theorem dX3_point_23 : decode cX3_point 23 = .ok (.aload_n 0, 1) := by decide +kernel
theorem dX3_point_24 : decode cX3_point 24 = .ok (.getfield 40, 3) := by decide +kernel
theorem dX3_point_27 : decode cX3_point 27 = .ok (.bipush 60, 2) := by decide +kernel
theorem dX3_point_29 : decode cX3_point 29 = .ok (.if_icmp .ne 7, 3) := by decide +kernel
theorem dX3_point_32 : decode cX3_point 32 = .ok (.iconst 2, 1) := by decide +kernel
theorem dX3_point_33 : decode cX3_point 33 = .ok (.goto 4, 3) := by decide +kernel
theorem dX3_point_36 : decode cX3_point 36 = .ok (.iconst 0, 1) := by decide +kernel
theorem dX3_point_37 : decode cX3_point 37 = .ok (.putfield 33, 3) := by decide +kernel
theorem dX3_point_40 : decode cX3_point 40 = .ok (.aload_n 0, 1) := by decide +kernel
theorem dX3_point_41 : decode cX3_point 41 = .ok (.getfield 33, 3) := by decide +kernel
theorem dX3_point_44 : decode cX3_point 44 = .ok (.ifCond .le 5, 3) := by decide +kernel
theorem dX3_point_47 : decode cX3_point 47 = .ok (.iconst 0, 1) := by decide +kernel
theorem dX3_point_48 : decode cX3_point 48 = .ok (.ireturn, 1) := by decide +kernel
theorem dX3_point_49 : decode cX3_point 49 = .ok (.aload_n 0, 1) := by decide +kernel
theorem dX3_point_50 : decode cX3_point 50 = .ok (.getfield 7, 3) := by decide +kernel
theorem dX3_point_53 : decode cX3_point 53 = .ok (.aload_n 0, 1) := by decide +kernel
theorem dX3_point_54 : decode cX3_point 54 = .ok (.getfield 40, 3) := by decide +kernel
theorem dX3_point_57 : decode cX3_point 57 = .ok (.iload_n 1, 1) := by decide +kernel
theorem dX3_point_58 : decode cX3_point 58 = .ok (.iastore, 1) := by decide +kernel
theorem dX3_point_59 : decode cX3_point 59 = .ok (.aload_n 0, 1) := by decide +kernel
theorem dX3_point_60 : decode cX3_point 60 = .ok (.getfield 13, 3) := by decide +kernel
theorem dX3_point_63 : decode cX3_point 63 = .ok (.aload_n 0, 1) := by decide +kernel
theorem dX3_point_64 : decode cX3_point 64 = .ok (.getfield 40, 3) := by decide +kernel
theorem dX3_point_67 : decode cX3_point 67 = .ok (.iload_n 2, 1) := by decide +kernel
theorem dX3_point_68 : decode cX3_point 68 = .ok (.iastore, 1) := by decide +kernel
theorem dX3_point_69 : decode cX3_point 69 = .ok (.aload_n 0, 1) := by decide +kernel
theorem dX3_point_70 : decode cX3_point 70 = .ok (.dup, 1) := by decide +kernel
theorem dX3_point_71 : decode cX3_point 71 = .ok (.getfield 40, 3) := by decide +kernel
theorem dX3_point_74 : decode cX3_point 74 = .ok (.iconst 1, 1) := by decide +kernel
theorem dX3_point_75 : decode cX3_point 75 = .ok (.iadd, 1) := by decide +kernel
theorem dX3_point_76 : decode cX3_point 76 = .ok (.putfield 40, 3) := by decide +kernel
theorem dX3_point_79 : decode cX3_point 79 = .ok (.aload_n 0, 1) := by decide +kernel
theorem dX3_point_80 : decode cX3_point 80 = .ok (.getfield 40, 3) := by decide +kernel
theorem dX3_point_83 : decode cX3_point 83 = .ok (.iconst 1, 1) := by decide +kernel
theorem dX3_point_84 : decode cX3_point 84 = .ok (.isub, 1) := by decide +kernel
theorem dX3_point_85 : decode cX3_point 85 = .ok (.ireturn, 1) := by decide +kernel
set_option maxRecDepth 20000 in
theorem ggX3_move_X3_isPlace : GoodIn wsX3_move wsX3_isPlace := goodIn_r _ [8, 9, 10, 7, 11] (by decide +kernel) (by decide +kernel)
set_option maxRecDepth 20000 in
theorem gX3_move_X3_isPlace : GoodIn wsX3_move (va_wsS RX3 106 yX3_isPlace wsX3_isPlace) := goodIn_app (goodIn_of _ (by decide +kernel)) ggX3_move_X3_isPlace
set_option maxRecDepth 20000 in
theorem ggX3_move_X3_pointAt : GoodIn wsX3_move wsX3_pointAt := goodIn_r _ [15, 1, 3, 4, 16, 17, 18, 19, 20, 21, 22, 23, 24, 25, 26] (by decide +kernel) (by decide +kernel)
set_option maxRecDepth 20000 in
theorem gX3_move_X3_pointAt : GoodIn wsX3_move (wsV RX3 109 RX3 yX3_pointAt wsX3_pointAt) := goodIn_app (goodIn_of _ (by decide +kernel)) ggX3_move_X3_pointAt
set_option maxRecDepth 20000 in
theorem ggX3_move_X3_in : GoodIn wsX3_move wsX3_in := goodIn_r _ [11] (by decide +kernel) (by decide +kernel)
set_option maxRecDepth 20000 in
theorem gX3_move_X3_in : GoodIn wsX3_move (va_wsS RX3 46 yX3_in wsX3_in) := goodIn_app (goodIn_of _ (by decide +kernel)) ggX3_move_X3_in
theorem dX3_move_0 : decode cX3_move 0 = .ok (.iload_n 2, 1) := by decide +kernel
theorem dX3_move_1 : decode cX3_move 1 = .ok (.iload_n 3, 1) := by decide +kernel
theorem dX3_move_2 : decode cX3_move 2 = .ok (.invokestatic 106, 3) := by decide +kernel
theorem dX3_move_5 : decode cX3_move 5 = .ok (.ifCond .eq 12, 3) := by decide +kernel
theorem dX3_move_8 : decode cX3_move 8 = .ok (.aload_n 0, 1) := by decide +kernel
theorem dX3_move_9 : decode cX3_move 9 = .ok (.iload_n 2, 1) := by decide +kernel
theorem dX3_move_10 : decode cX3_move 10 = .ok (.iload_n 3, 1) := by decide +kernel
theorem dX3_move_11 : decode cX3_move 11 = .ok (.invokevirtual 109, 3) := by decide +kernel
theorem dX3_move_14 : decode cX3_move 14 = .ok (.goto 4, 3) := by decide +kernel
theorem dX3_move_17 : decode cX3_move 17 = .ok (.iconst (-1), 1) := by decide +kernel
theorem dX3_move_18 : decode cX3_move 18 = .ok (.istore 4, 2) := by decide +kernel
theorem dX3_move_20 : decode cX3_move 20 = .ok (.aload_n 0, 1) := by decide +kernel
theorem dX3_move_21 : decode cX3_move 21 = .ok (.iload_n 1, 1) := by decide +kernel
theorem dX3_move_22 : decode cX3_move 22 = .ok (.aload_n 0, 1) := by decide +kernel
theorem dX3_move_23 : decode cX3_move 23 = .ok (.getfield 40, 3) := by decide +kernel
theorem dX3_move_26 : decode cX3_move 26 = .ok (.invokestatic 46, 3) := by decide +kernel
theorem dX3_move_29 : decode cX3_move 29 = .ok (.ifCond .ne 7, 3) := by decide +kernel
theorem dX3_move_32 : decode cX3_move 32 = .ok (.iconst 1, 1) := by decide +kernel
theorem dX3_move_33 : decode cX3_move 33 = .ok (.goto 32, 3) := by decide +kernel
theorem dX3_move_36 : decode cX3_move 36 = .ok (.iload_n 2, 1) := by decide +kernel
theorem dX3_move_37 : decode cX3_move 37 = .ok (.iload_n 3, 1) := by decide +kernel
theorem dX3_move_38 : decode cX3_move 38 = .ok (.invokestatic 106, 3) := by decide +kernel
theorem dX3_move_41 : decode cX3_move 41 = .ok (.ifCond .ne 7, 3) := by decide +kernel
theorem dX3_move_44 : decode cX3_move 44 = .ok (.iconst 2, 1) := by decide +kernel
theorem dX3_move_45 : decode cX3_move 45 = .ok (.goto 20, 3) := by decide +kernel
theorem dX3_move_48 : decode cX3_move 48 = .ok (.iload 4, 2) := by decide +kernel
theorem dX3_move_50 : decode cX3_move 50 = .ok (.iconst (-1), 1) := by decide +kernel
theorem dX3_move_51 : decode cX3_move 51 = .ok (.if_icmp .eq 13, 3) := by decide +kernel
theorem dX3_move_54 : decode cX3_move 54 = .ok (.iload 4, 2) := by decide +kernel
theorem dX3_move_56 : decode cX3_move 56 = .ok (.iload_n 1, 1) := by decide +kernel
theorem dX3_move_57 : decode cX3_move 57 = .ok (.if_icmp .eq 7, 3) := by decide +kernel
theorem dX3_move_60 : decode cX3_move 60 = .ok (.iconst 3, 1) := by decide +kernel
theorem dX3_move_61 : decode cX3_move 61 = .ok (.goto 4, 3) := by decide +kernel
theorem dX3_move_64 : decode cX3_move 64 = .ok (.iconst 0, 1) := by decide +kernel
theorem dX3_move_65 : decode cX3_move 65 = .ok (.putfield 33, 3) := by decide +kernel
theorem dX3_move_68 : decode cX3_move 68 = .ok (.aload_n 0, 1) := by decide +kernel
theorem dX3_move_69 : decode cX3_move 69 = .ok (.getfield 33, 3) := by decide +kernel
theorem dX3_move_72 : decode cX3_move 72 = .ok (.ifCond .le 4, 3) := by decide +kernel
theorem dX3_move_75 : decode cX3_move 75 = .ok (.return_, 1) := by decide +kernel
theorem dX3_move_76 : decode cX3_move 76 = .ok (.aload_n 0, 1) := by decide +kernel
theorem dX3_move_77 : decode cX3_move 77 = .ok (.getfield 7, 3) := by decide +kernel
theorem dX3_move_80 : decode cX3_move 80 = .ok (.iload_n 1, 1) := by decide +kernel
theorem dX3_move_81 : decode cX3_move 81 = .ok (.iload_n 2, 1) := by decide +kernel
theorem dX3_move_82 : decode cX3_move 82 = .ok (.iastore, 1) := by decide +kernel
theorem dX3_move_83 : decode cX3_move 83 = .ok (.aload_n 0, 1) := by decide +kernel
theorem dX3_move_84 : decode cX3_move 84 = .ok (.getfield 13, 3) := by decide +kernel
theorem dX3_move_87 : decode cX3_move 87 = .ok (.iload_n 1, 1) := by decide +kernel
theorem dX3_move_88 : decode cX3_move 88 = .ok (.iload_n 3, 1) := by decide +kernel
theorem dX3_move_89 : decode cX3_move 89 = .ok (.iastore, 1) := by decide +kernel
theorem dX3_move_90 : decode cX3_move 90 = .ok (.return_, 1) := by decide +kernel
set_option maxRecDepth 20000 in
theorem ggX3_add_X3_set : GoodIn wsX3_add wsX3_set := goodIn_r _ [8, 9, 10, 11, 12, 13, 14, 15, 16, 17, 18, 19, 20] (by decide +kernel) (by decide +kernel)
set_option maxRecDepth 20000 in
theorem gX3_add_X3_set : GoodIn wsX3_add (wsV RX3 102 RX3 yX3_set wsX3_set) := goodIn_app (goodIn_of _ (by decide +kernel)) ggX3_add_X3_set
theorem dX3_add_0 : decode cX3_add 0 = .ok (.aload_n 0, 1) := by decide +kernel
theorem dX3_add_1 : decode cX3_add 1 = .ok (.aload_n 0, 1) := by decide +kernel
theorem dX3_add_2 : decode cX3_add 2 = .ok (.getfield 43, 3) := by decide +kernel
theorem dX3_add_5 : decode cX3_add 5 = .ok (.iload_n 1, 1) := by decide +kernel
theorem dX3_add_6 : decode cX3_add 6 = .ok (.iload_n 2, 1) := by decide +kernel
theorem dX3_add_7 : decode cX3_add 7 = .ok (.iload_n 3, 1) := by decide +kernel
theorem dX3_add_8 : decode cX3_add 8 = .ok (.invokevirtual 102, 3) := by decide +kernel
theorem dX3_add_11 : decode cX3_add 11 = .ok (.aload_n 0, 1) := by decide +kernel
theorem dX3_add_12 : decode cX3_add 12 = .ok (.getfield 16, 3) := by decide +kernel
theorem dX3_add_15 : decode cX3_add 15 = .ok (.aload_n 0, 1) := by decide +kernel
theorem dX3_add_16 : decode cX3_add 16 = .ok (.getfield 43, 3) := by decide +kernel
theorem dX3_add_19 : decode cX3_add 19 = .ok (.iconst 1, 1) := by decide +kernel
theorem dX3_add_20 : decode cX3_add 20 = .ok (.bastore, 1) := by decide +kernel
theorem dX3_add_21 : decode cX3_add 21 = .ok (.aload_n 0, 1) := by decide +kernel
theorem dX3_add_22 : decode cX3_add 22 = .ok (.dup, 1) := by decide +kernel
theorem dX3_add_23 : decode cX3_add 23 = .ok (.getfield 43, 3) := by decide +kernel
theorem dX3_add_26 : decode cX3_add 26 = .ok (.iconst 1, 1) := by decide +kernel
theorem dX3_add_27 : decode cX3_add 27 = .ok (.iadd, 1) := by decide +kernel
theorem dX3_add_28 : decode cX3_add 28 = .ok (.putfield 43, 3) := by decide +kernel
theorem dX3_add_31 : decode cX3_add 31 = .ok (.aload_n 0, 1) := by decide +kernel
theorem dX3_add_32 : decode cX3_add 32 = .ok (.dup, 1) := by decide +kernel
theorem dX3_add_33 : decode cX3_add 33 = .ok (.getfield 112, 3) := by decide +kernel
theorem dX3_add_36 : decode cX3_add 36 = .ok (.iconst 1, 1) := by decide +kernel
theorem dX3_add_37 : decode cX3_add 37 = .ok (.iadd, 1) := by decide +kernel
theorem dX3_add_38 : decode cX3_add 38 = .ok (.putfield 112, 3) := by decide +kernel
theorem dX3_add_41 : decode cX3_add 41 = .ok (.aload_n 0, 1) := by decide +kernel
theorem dX3_add_42 : decode cX3_add 42 = .ok (.getfield 43, 3) := by decide +kernel
theorem dX3_add_45 : decode cX3_add 45 = .ok (.iconst 1, 1) := by decide +kernel
theorem dX3_add_46 : decode cX3_add 46 = .ok (.isub, 1) := by decide +kernel
theorem dX3_add_47 : decode cX3_add 47 = .ok (.ireturn, 1) := by decide +kernel
set_option maxRecDepth 20000 in
theorem ggX3_triangle_X3_in : GoodIn wsX3_triangle wsX3_in := goodIn_r _ [8] (by decide +kernel) (by decide +kernel)
set_option maxRecDepth 20000 in
theorem gX3_triangle_X3_in : GoodIn wsX3_triangle (va_wsS RX3 46 yX3_in wsX3_in) := goodIn_app (goodIn_of _ (by decide +kernel)) ggX3_triangle_X3_in
set_option maxRecDepth 20000 in
theorem ggX3_triangle_X3_add : GoodIn wsX3_triangle wsX3_add := goodIn_r _ [12, 3, 13, 2, 14, 15, 16, 7, 17, 18, 19, 20, 21, 22, 23, 24, 25, 26, 27, 28, 29] (by decide +kernel) (by decide +kernel)
set_option maxRecDepth 20000 in
theorem gX3_triangle_X3_add : GoodIn wsX3_triangle (wsV RX3 115 RX3 yX3_add wsX3_add) := goodIn_app (goodIn_of _ (by decide +kernel)) ggX3_triangle_X3_add
theorem dX3_triangle_0 : decode cX3_triangle 0 = .ok (.aload_n 0, 1) := by decide +kernel
theorem dX3_triangle_1 : decode cX3_triangle 1 = .ok (.iload_n 1, 1) := by decide +kernel
theorem dX3_triangle_2 : decode cX3_triangle 2 = .ok (.aload_n 0, 1) := by decide +kernel
theorem dX3_triangle_3 : decode cX3_triangle 3 = .ok (.getfield 40, 3) := by decide +kernel
theorem dX3_triangle_6 : decode cX3_triangle 6 = .ok (.invokestatic 46, 3) := by decide +kernel
theorem dX3_triangle_9 : decode cX3_triangle 9 = .ok (.ifCond .eq 25, 3) := by decide +kernel
theorem dX3_triangle_12 : decode cX3_triangle 12 = .ok (.iload_n 2, 1) := by decide +kernel
theorem dX3_triangle_13 : decode cX3_triangle 13 = .ok (.aload_n 0, 1) := by decide +kernel
theorem dX3_triangle_14 : decode cX3_triangle 14 = .ok (.getfield 40, 3) := by decide +kernel
theorem dX3_triangle_17 : decode cX3_triangle 17 = .ok (.invokestatic 46, 3) := by decide +kernel
theorem dX3_triangle_20 : decode cX3_triangle 20 = .ok (.ifCond .eq 14, 3) := by decide +kernel
theorem dX3_triangle_23 : decode cX3_triangle 23 = .ok (.iload_n 3, 1) := by decide +kernel
theorem dX3_triangle_24 : decode cX3_triangle 24 = .ok (.aload_n 0, 1) := by decide +kernel
theorem dX3_triangle_25 : decode cX3_triangle 25 = .ok (.getfield 40, 3) := by decide +kernel
theorem dX3_triangle_28 : decode cX3_triangle 28 = .ok (.invokestatic 46, 3) := by decide +kernel
theorem dX3_triangle_31 : decode cX3_triangle 31 = .ok (.ifCond .ne 7, 3) := by decide +kernel
theorem dX3_triangle_34 : decode cX3_triangle 34 = .ok (.iconst 1, 1) := by decide +kernel
theorem dX3_triangle_35 : decode cX3_triangle 35 = .ok (.goto 46, 3) := by decide +kernel
theorem dX3_triangle_38 : decode cX3_triangle 38 = .ok (.iload_n 1, 1) := by decide +kernel
theorem dX3_triangle_39 : decode cX3_triangle 39 = .ok (.iload_n 2, 1) := by decide +kernel
theorem dX3_triangle_40 : decode cX3_triangle 40 = .ok (.if_icmp .eq 13, 3) := by decide +kernel
theorem dX3_triangle_43 : decode cX3_triangle 43 = .ok (.iload_n 2, 1) := by decide +kernel
theorem dX3_triangle_44 : decode cX3_triangle 44 = .ok (.iload_n 3, 1) := by decide +kernel
theorem dX3_triangle_45 : decode cX3_triangle 45 = .ok (.if_icmp .eq 8, 3) := by decide +kernel
theorem dX3_triangle_48 : decode cX3_triangle 48 = .ok (.iload_n 1, 1) := by decide +kernel
theorem dX3_triangle_49 : decode cX3_triangle 49 = .ok (.iload_n 3, 1) := by decide +kernel
theorem dX3_triangle_50 : decode cX3_triangle 50 = .ok (.if_icmp .ne 7, 3) := by decide +kernel
theorem dX3_triangle_53 : decode cX3_triangle 53 = .ok (.iconst 2, 1) := by decide +kernel
theorem dX3_triangle_54 : decode cX3_triangle 54 = .ok (.goto 27, 3) := by decide +kernel
theorem dX3_triangle_57 : decode cX3_triangle 57 = .ok (.aload_n 0, 1) := by decide +kernel
theorem dX3_triangle_58 : decode cX3_triangle 58 = .ok (.getfield 112, 3) := by decide +kernel
theorem dX3_triangle_61 : decode cX3_triangle 61 = .ok (.bipush 60, 2) := by decide +kernel
theorem dX3_triangle_63 : decode cX3_triangle 63 = .ok (.if_icmp .eq 13, 3) := by decide +kernel
theorem dX3_triangle_66 : decode cX3_triangle 66 = .ok (.aload_n 0, 1) := by decide +kernel
theorem dX3_triangle_67 : decode cX3_triangle 67 = .ok (.getfield 43, 3) := by decide +kernel
theorem dX3_triangle_70 : decode cX3_triangle 70 = .ok (.sipush 200, 3) := by decide +kernel
theorem dX3_triangle_73 : decode cX3_triangle 73 = .ok (.if_icmp .ne 7, 3) := by decide +kernel
theorem dX3_triangle_76 : decode cX3_triangle 76 = .ok (.iconst 3, 1) := by decide +kernel
theorem dX3_triangle_77 : decode cX3_triangle 77 = .ok (.goto 4, 3) := by decide +kernel
theorem dX3_triangle_80 : decode cX3_triangle 80 = .ok (.iconst 0, 1) := by decide +kernel
theorem dX3_triangle_81 : decode cX3_triangle 81 = .ok (.putfield 33, 3) := by decide +kernel
theorem dX3_triangle_84 : decode cX3_triangle 84 = .ok (.aload_n 0, 1) := by decide +kernel
theorem dX3_triangle_85 : decode cX3_triangle 85 = .ok (.getfield 33, 3) := by decide +kernel
theorem dX3_triangle_88 : decode cX3_triangle 88 = .ok (.ifCond .le 7, 3) := by decide +kernel
theorem dX3_triangle_91 : decode cX3_triangle 91 = .ok (.iconst 0, 1) := by decide +kernel
theorem dX3_triangle_92 : decode cX3_triangle 92 = .ok (.goto 10, 3) := by decide +kernel
theorem dX3_triangle_95 : decode cX3_triangle 95 = .ok (.aload_n 0, 1) := by decide +kernel
theorem dX3_triangle_96 : decode cX3_triangle 96 = .ok (.iload_n 1, 1) := by decide +kernel
theorem dX3_triangle_97 : decode cX3_triangle 97 = .ok (.iload_n 2, 1) := by decide +kernel
theorem dX3_triangle_98 : decode cX3_triangle 98 = .ok (.iload_n 3, 1) := by decide +kernel
theorem dX3_triangle_99 : decode cX3_triangle 99 = .ok (.invokevirtual 115, 3) := by decide +kernel
theorem dX3_triangle_102 : decode cX3_triangle 102 = .ok (.ireturn, 1) := by decide +kernel
set_option maxRecDepth 20000 in
theorem ggX3_take_X3_isThere : GoodIn wsX3_take wsX3_isThere := goodIn_r _ [8, 9, 2, 10, 11, 7, 12, 13, 14, 15, 16, 17, 18, 19, 20, 21, 22, 23] (by decide +kernel) (by decide +kernel)
set_option maxRecDepth 20000 in
theorem gX3_take_X3_isThere : GoodIn wsX3_take (wsV RX3 81 RX3 yX3_isThere wsX3_isThere) := goodIn_app (goodIn_of _ (by decide +kernel)) ggX3_take_X3_isThere
theorem dX3_take_0 : decode cX3_take 0 = .ok (.aload_n 0, 1) := by decide +kernel
theorem dX3_take_1 : decode cX3_take 1 = .ok (.aload_n 0, 1) := by decide +kernel
theorem dX3_take_2 : decode cX3_take 2 = .ok (.iload_n 1, 1) := by decide +kernel
theorem dX3_take_3 : decode cX3_take 3 = .ok (.invokevirtual 81, 3) := by decide +kernel
theorem dX3_take_6 : decode cX3_take 6 = .ok (.ifCond .eq 7, 3) := by decide +kernel
theorem dX3_take_9 : decode cX3_take 9 = .ok (.iconst 0, 1) := by decide +kernel
theorem dX3_take_10 : decode cX3_take 10 = .ok (.goto 4, 3) := by decide +kernel
theorem dX3_take_13 : decode cX3_take 13 = .ok (.iconst 1, 1) := by decide +kernel
theorem dX3_take_14 : decode cX3_take 14 = .ok (.putfield 33, 3) := by decide +kernel
theorem dX3_take_17 : decode cX3_take 17 = .ok (.aload_n 0, 1) := by decide +kernel
theorem dX3_take_18 : decode cX3_take 18 = .ok (.getfield 33, 3) := by decide +kernel
theorem dX3_take_21 : decode cX3_take 21 = .ok (.ifCond .le 4, 3) := by decide +kernel
theorem dX3_take_24 : decode cX3_take 24 = .ok (.return_, 1) := by decide +kernel
theorem dX3_take_25 : decode cX3_take 25 = .ok (.aload_n 0, 1) := by decide +kernel
theorem dX3_take_26 : decode cX3_take 26 = .ok (.getfield 16, 3) := by decide +kernel
theorem dX3_take_29 : decode cX3_take 29 = .ok (.iload_n 1, 1) := by decide +kernel
theorem dX3_take_30 : decode cX3_take 30 = .ok (.iconst 0, 1) := by decide +kernel
theorem dX3_take_31 : decode cX3_take 31 = .ok (.bastore, 1) := by decide +kernel
theorem dX3_take_32 : decode cX3_take 32 = .ok (.aload_n 0, 1) := by decide +kernel
theorem dX3_take_33 : decode cX3_take 33 = .ok (.dup, 1) := by decide +kernel
theorem dX3_take_34 : decode cX3_take 34 = .ok (.getfield 112, 3) := by decide +kernel
theorem dX3_take_37 : decode cX3_take 37 = .ok (.iconst 1, 1) := by decide +kernel
theorem dX3_take_38 : decode cX3_take 38 = .ok (.isub, 1) := by decide +kernel
theorem dX3_take_39 : decode cX3_take 39 = .ok (.putfield 112, 3) := by decide +kernel
theorem dX3_take_42 : decode cX3_take 42 = .ok (.return_, 1) := by decide +kernel
set_option maxRecDepth 20000 in
theorem ggX3_part_X3_isThere : GoodIn wsX3_part wsX3_isThere := goodIn_r _ [11, 6, 12, 13, 14, 10, 15, 43, 44, 45, 46, 47, 48, 49, 50, 51, 52, 53] (by decide +kernel) (by decide +kernel)
set_option maxRecDepth 20000 in
theorem gX3_part_X3_isThere : GoodIn wsX3_part (wsV RX3 81 RX3 yX3_isThere wsX3_isThere) := goodIn_app (goodIn_of _ (by decide +kernel)) ggX3_part_X3_isThere
set_option maxRecDepth 20000 in
theorem ggX3_part_X3_isPlace : GoodIn wsX3_part wsX3_isPlace := goodIn_r _ [18, 13, 14, 10, 15] (by decide +kernel) (by decide +kernel)
set_option maxRecDepth 20000 in
theorem gX3_part_X3_isPlace : GoodIn wsX3_part (va_wsS RX3 106 yX3_isPlace wsX3_isPlace) := goodIn_app (goodIn_of _ (by decide +kernel)) ggX3_part_X3_isPlace
set_option maxRecDepth 20000 in
theorem ggX3_part_X3_at : GoodIn wsX3_part wsX3_at := goodIn_r _ [22, 23, 43, 44, 45, 46, 47, 48, 49, 50, 51, 52, 53] (by decide +kernel) (by decide +kernel)
set_option maxRecDepth 20000 in
theorem gX3_part_X3_at : GoodIn wsX3_part (wsV RX3 50 RX3 yX3_at wsX3_at) := goodIn_app (goodIn_of _ (by decide +kernel)) ggX3_part_X3_at
set_option maxRecDepth 20000 in
theorem ggX3_part_X3_turnOf : GoodIn wsX3_part wsX3_turnOf := goodIn_r _ [26] (by decide +kernel) (by decide +kernel)
set_option maxRecDepth 20000 in
theorem gX3_part_X3_turnOf : GoodIn wsX3_part (va_wsS RX3 36 yX3_turnOf wsX3_turnOf) := goodIn_app (goodIn_of _ (by decide +kernel)) ggX3_part_X3_turnOf
set_option maxRecDepth 20000 in
theorem ggX3_part_X3_pointAt : GoodIn wsX3_part wsX3_pointAt := goodIn_r _ [30, 4, 2, 3, 43, 44, 45, 46, 47, 48, 49, 50, 51, 52, 53] (by decide +kernel) (by decide +kernel)
set_option maxRecDepth 20000 in
theorem gX3_part_X3_pointAt : GoodIn wsX3_part (wsV RX3 109 RX3 yX3_pointAt wsX3_pointAt) := goodIn_app (goodIn_of _ (by decide +kernel)) ggX3_part_X3_pointAt
set_option maxRecDepth 20000 in
theorem ggX3_part_X3_point : GoodIn wsX3_part wsX3_point := goodIn_r _ [34, 4, 1, 2, 3, 16, 17, 10, 18, 13, 14, 15, 27, 28, 29, 30, 43, 44, 45, 46, 47, 48, 49, 50, 51, 52, 53] (by decide +kernel) (by decide +kernel)
set_option maxRecDepth 20000 in
theorem gX3_part_X3_point : GoodIn wsX3_part (wsV RX3 118 RX3 yX3_point wsX3_point) := goodIn_app (goodIn_of _ (by decide +kernel)) ggX3_part_X3_point
set_option maxRecDepth 20000 in
theorem ggX3_part_X3_set : GoodIn wsX3_part wsX3_set := goodIn_r _ [38, 23, 43, 44, 45, 46, 47, 48, 49, 50, 51, 52, 53] (by decide +kernel) (by decide +kernel)
set_option maxRecDepth 20000 in
theorem gX3_part_X3_set : GoodIn wsX3_part (wsV RX3 102 RX3 yX3_set wsX3_set) := goodIn_app (goodIn_of _ (by decide +kernel)) ggX3_part_X3_set
set_option maxRecDepth 20000 in
theorem ggX3_part_X3_add : GoodIn wsX3_part wsX3_add := goodIn_r _ [42, 6, 12, 5, 35, 36, 37, 10, 38, 23, 43, 44, 45, 46, 47, 48, 49, 50, 51, 52, 53] (by decide +kernel) (by decide +kernel)
set_option maxRecDepth 20000 in
theorem gX3_part_X3_add : GoodIn wsX3_part (wsV RX3 115 RX3 yX3_add wsX3_add) := goodIn_app (goodIn_of _ (by decide +kernel)) ggX3_part_X3_add
theorem dX3_part_0 : decode cX3_part 0 = .ok (.iload_n 1, 1) := by decide +kernel
theorem dX3_part_1 : decode cX3_part 1 = .ok (.istore 4, 2) := by decide +kernel
theorem dX3_part_3 : decode cX3_part 3 = .ok (.aload_n 0, 1) := by decide +kernel
theorem dX3_part_4 : decode cX3_part 4 = .ok (.aload_n 0, 1) := by decide +kernel
theorem dX3_part_5 : decode cX3_part 5 = .ok (.iload 4, 2) := by decide +kernel
theorem dX3_part_7 : decode cX3_part 7 = .ok (.invokevirtual 81, 3) := by decide +kernel
theorem dX3_part_10 : decode cX3_part 10 = .ok (.ifCond .eq 7, 3) := by decide +kernel
theorem dX3_part_13 : decode cX3_part 13 = .ok (.iconst 0, 1) := by decide +kernel
theorem dX3_part_14 : decode cX3_part 14 = .ok (.goto 4, 3) := by decide +kernel
theorem dX3_part_17 : decode cX3_part 17 = .ok (.iconst 1, 1) := by decide +kernel
theorem dX3_part_18 : decode cX3_part 18 = .ok (.putfield 33, 3) := by decide +kernel
theorem dX3_part_21 : decode cX3_part 21 = .ok (.aload_n 0, 1) := by decide +kernel
theorem dX3_part_22 : decode cX3_part 22 = .ok (.getfield 33, 3) := by decide +kernel
theorem dX3_part_25 : decode cX3_part 25 = .ok (.ifCond .le 5, 3) := by decide +kernel
theorem dX3_part_28 : decode cX3_part 28 = .ok (.iconst 0, 1) := by decide +kernel
theorem dX3_part_29 : decode cX3_part 29 = .ok (.ireturn, 1) := by decide +kernel
theorem dX3_part_30 : decode cX3_part 30 = .ok (.iload_n 2, 1) := by decide +kernel
theorem dX3_part_31 : decode cX3_part 31 = .ok (.iload_n 3, 1) := by decide +kernel
theorem dX3_part_32 : decode cX3_part 32 = .ok (.invokestatic 106, 3) := by decide +kernel
theorem dX3_part_35 : decode cX3_part 35 = .ok (.istore 5, 2) := by decide +kernel
theorem dX3_part_37 : decode cX3_part 37 = .ok (.iconst 0, 1) := by decide +kernel
