theorem dX8_findCosts_110 : decode cX8_findCosts 110 = .ok (.getfield 26, 3) := by decide +kernel
theorem dX8_findCosts_113 : decode cX8_findCosts 113 = .ok (.bipush 18, 2) := by decide +kernel
theorem dX8_findCosts_115 : decode cX8_findCosts 115 = .ok (.iconst 3, 1) := by decide +kernel
theorem dX8_findCosts_116 : decode cX8_findCosts 116 = .ok (.iload 10, 2) := by decide +kernel
theorem dX8_findCosts_118 : decode cX8_findCosts 118 = .ok (.imul, 1) := by decide +kernel
theorem dX8_findCosts_119 : decode cX8_findCosts 119 = .ok (.iadd, 1) := by decide +kernel
theorem dX8_findCosts_120 : decode cX8_findCosts 120 = .ok (.iconst 1, 1) := by decide +kernel
theorem dX8_findCosts_121 : decode cX8_findCosts 121 = .ok (.iadd, 1) := by decide +kernel
theorem dX8_findCosts_122 : decode cX8_findCosts 122 = .ok (.iaload, 1) := by decide +kernel
theorem dX8_findCosts_123 : decode cX8_findCosts 123 = .ok (.i2l, 1) := by decide +kernel
theorem dX8_findCosts_124 : decode cX8_findCosts 124 = .ok (.lsub, 1) := by decide +kernel
theorem dX8_findCosts_125 : decode cX8_findCosts 125 = .ok (.lstore 11, 2) := by decide +kernel
theorem dX8_findCosts_127 : decode cX8_findCosts 127 = .ok (.lload 8, 2) := by decide +kernel
theorem dX8_findCosts_129 : decode cX8_findCosts 129 = .ok (.aload_n 0, 1) := by decide +kernel
theorem dX8_findCosts_130 : decode cX8_findCosts 130 = .ok (.getfield 26, 3) := by decide +kernel
theorem dX8_findCosts_133 : decode cX8_findCosts 133 = .ok (.bipush 18, 2) := by decide +kernel
theorem dX8_findCosts_135 : decode cX8_findCosts 135 = .ok (.iconst 3, 1) := by decide +kernel
theorem dX8_findCosts_136 : decode cX8_findCosts 136 = .ok (.iload 10, 2) := by decide +kernel
theorem dX8_findCosts_138 : decode cX8_findCosts 138 = .ok (.imul, 1) := by decide +kernel
theorem dX8_findCosts_139 : decode cX8_findCosts 139 = .ok (.iadd, 1) := by decide +kernel
theorem dX8_findCosts_140 : decode cX8_findCosts 140 = .ok (.iconst 2, 1) := by decide +kernel
theorem dX8_findCosts_141 : decode cX8_findCosts 141 = .ok (.iadd, 1) := by decide +kernel
theorem dX8_findCosts_142 : decode cX8_findCosts 142 = .ok (.iaload, 1) := by decide +kernel
theorem dX8_findCosts_143 : decode cX8_findCosts 143 = .ok (.i2l, 1) := by decide +kernel
theorem dX8_findCosts_144 : decode cX8_findCosts 144 = .ok (.lsub, 1) := by decide +kernel
theorem dX8_findCosts_145 : decode cX8_findCosts 145 = .ok (.lstore 13, 2) := by decide +kernel
theorem dX8_findCosts_147 : decode cX8_findCosts 147 = .ok (.aload_n 0, 1) := by decide +kernel
theorem dX8_findCosts_148 : decode cX8_findCosts 148 = .ok (.getfield 51, 3) := by decide +kernel
theorem dX8_findCosts_151 : decode cX8_findCosts 151 = .ok (.bipush 6, 2) := by decide +kernel
theorem dX8_findCosts_153 : decode cX8_findCosts 153 = .ok (.iload_n 1, 1) := by decide +kernel
theorem dX8_findCosts_154 : decode cX8_findCosts 154 = .ok (.imul, 1) := by decide +kernel
theorem dX8_findCosts_155 : decode cX8_findCosts 155 = .ok (.iload 10, 2) := by decide +kernel
theorem dX8_findCosts_157 : decode cX8_findCosts 157 = .ok (.iadd, 1) := by decide +kernel
theorem dX8_findCosts_158 : decode cX8_findCosts 158 = .ok (.aload_n 0, 1) := by decide +kernel
theorem dX8_findCosts_159 : decode cX8_findCosts 159 = .ok (.getfield 26, 3) := by decide +kernel
theorem dX8_findCosts_162 : decode cX8_findCosts 162 = .ok (.iconst 3, 1) := by decide +kernel
theorem dX8_findCosts_163 : decode cX8_findCosts 163 = .ok (.iload_n 1, 1) := by decide +kernel
theorem dX8_findCosts_164 : decode cX8_findCosts 164 = .ok (.imul, 1) := by decide +kernel
theorem dX8_findCosts_165 : decode cX8_findCosts 165 = .ok (.iaload, 1) := by decide +kernel
theorem dX8_findCosts_166 : decode cX8_findCosts 166 = .ok (.aload_n 0, 1) := by decide +kernel
theorem dX8_findCosts_167 : decode cX8_findCosts 167 = .ok (.getfield 26, 3) := by decide +kernel
theorem dX8_findCosts_170 : decode cX8_findCosts 170 = .ok (.bipush 18, 2) := by decide +kernel
theorem dX8_findCosts_172 : decode cX8_findCosts 172 = .ok (.iconst 3, 1) := by decide +kernel
theorem dX8_findCosts_173 : decode cX8_findCosts 173 = .ok (.iload 10, 2) := by decide +kernel
theorem dX8_findCosts_175 : decode cX8_findCosts 175 = .ok (.imul, 1) := by decide +kernel
theorem dX8_findCosts_176 : decode cX8_findCosts 176 = .ok (.iadd, 1) := by decide +kernel
theorem dX8_findCosts_177 : decode cX8_findCosts 177 = .ok (.iaload, 1) := by decide +kernel
theorem dX8_findCosts_178 : decode cX8_findCosts 178 = .ok (.if_icmp .ne 37, 3) := by decide +kernel
theorem dX8_findCosts_181 : decode cX8_findCosts 181 = .ok (.lload 11, 2) := by decide +kernel
theorem dX8_findCosts_183 : decode cX8_findCosts 183 = .ok (.lconst 0, 1) := by decide +kernel
theorem dX8_findCosts_184 : decode cX8_findCosts 184 = .ok (.lcmp, 1) := by decide +kernel
theorem dX8_findCosts_185 : decode cX8_findCosts 185 = .ok (.ifCond .ge 9, 3) := by decide +kernel
theorem dX8_findCosts_188 : decode cX8_findCosts 188 = .ok (.lload 11, 2) := by decide +kernel
theorem dX8_findCosts_190 : decode cX8_findCosts 190 = .ok (.lneg, 1) := by decide +kernel
theorem dX8_findCosts_191 : decode cX8_findCosts 191 = .ok (.goto 5, 3) := by decide +kernel
theorem dX8_findCosts_194 : decode cX8_findCosts 194 = .ok (.lload 11, 2) := by decide +kernel
theorem dX8_findCosts_196 : decode cX8_findCosts 196 = .ok (.lload 13, 2) := by decide +kernel
theorem dX8_findCosts_198 : decode cX8_findCosts 198 = .ok (.lconst 0, 1) := by decide +kernel
theorem dX8_findCosts_199 : decode cX8_findCosts 199 = .ok (.lcmp, 1) := by decide +kernel
theorem dX8_findCosts_200 : decode cX8_findCosts 200 = .ok (.ifCond .ge 9, 3) := by decide +kernel
theorem dX8_findCosts_203 : decode cX8_findCosts 203 = .ok (.lload 13, 2) := by decide +kernel
theorem dX8_findCosts_205 : decode cX8_findCosts 205 = .ok (.lneg, 1) := by decide +kernel
theorem dX8_findCosts_206 : decode cX8_findCosts 206 = .ok (.goto 5, 3) := by decide +kernel
theorem dX8_findCosts_209 : decode cX8_findCosts 209 = .ok (.lload 13, 2) := by decide +kernel
theorem dX8_findCosts_211 : decode cX8_findCosts 211 = .ok (.ladd, 1) := by decide +kernel
theorem dX8_findCosts_212 : decode cX8_findCosts 212 = .ok (.goto 6, 3) := by decide +kernel
theorem dX8_findCosts_215 : decode cX8_findCosts 215 = .ok (.ldc2_w 227, 3) := by decide +kernel
theorem dX8_findCosts_218 : decode cX8_findCosts 218 = .ok (.lastore, 1) := by decide +kernel
theorem dX8_findCosts_219 : decode cX8_findCosts 219 = .ok (.iinc 10 1, 3) := by decide +kernel
theorem dX8_findCosts_222 : decode cX8_findCosts 222 = .ok (.goto (-126), 3) := by decide +kernel
theorem dX8_findCosts_225 : decode cX8_findCosts 225 = .ok (.iinc 1 1, 3) := by decide +kernel
theorem dX8_findCosts_228 : decode cX8_findCosts 228 = .ok (.goto (-226), 3) := by decide +kernel
theorem dX8_findCosts_231 : decode cX8_findCosts 231 = .ok (.return_, 1) := by decide +kernel
theorem dX8_costOfChoice_0 : decode cX8_costOfChoice 0 = .ok (.lconst 0, 1) := by decide +kernel
theorem dX8_costOfChoice_1 : decode cX8_costOfChoice 1 = .ok (.lstore_n 1, 1) := by decide +kernel
theorem dX8_costOfChoice_2 : decode cX8_costOfChoice 2 = .ok (.iconst 0, 1) := by decide +kernel
theorem dX8_costOfChoice_3 : decode cX8_costOfChoice 3 = .ok (.istore_n 3, 1) := by decide +kernel
theorem dX8_costOfChoice_4 : decode cX8_costOfChoice 4 = .ok (.iconst 0, 1) := by decide +kernel
theorem dX8_costOfChoice_5 : decode cX8_costOfChoice 5 = .ok (.istore 4, 2) := by decide +kernel
theorem dX8_costOfChoice_7 : decode cX8_costOfChoice 7 = .ok (.iload 4, 2) := by decide +kernel
theorem dX8_costOfChoice_9 : decode cX8_costOfChoice 9 = .ok (.aload_n 0, 1) := by decide +kernel
theorem dX8_costOfChoice_10 : decode cX8_costOfChoice 10 = .ok (.getfield 23, 3) := by decide +kernel
theorem dX8_costOfChoice_13 : decode cX8_costOfChoice 13 = .ok (.iconst 0, 1) := by decide +kernel
theorem dX8_costOfChoice_14 : decode cX8_costOfChoice 14 = .ok (.iaload, 1) := by decide +kernel
theorem dX8_costOfChoice_15 : decode cX8_costOfChoice 15 = .ok (.if_icmp .ge 95, 3) := by decide +kernel
theorem dX8_costOfChoice_18 : decode cX8_costOfChoice 18 = .ok (.aload_n 0, 1) := by decide +kernel
theorem dX8_costOfChoice_19 : decode cX8_costOfChoice 19 = .ok (.getfield 55, 3) := by decide +kernel
theorem dX8_costOfChoice_22 : decode cX8_costOfChoice 22 = .ok (.iload 4, 2) := by decide +kernel
theorem dX8_costOfChoice_24 : decode cX8_costOfChoice 24 = .ok (.iaload, 1) := by decide +kernel
theorem dX8_costOfChoice_25 : decode cX8_costOfChoice 25 = .ok (.istore 5, 2) := by decide +kernel
theorem dX8_costOfChoice_27 : decode cX8_costOfChoice 27 = .ok (.iload 5, 2) := by decide +kernel
theorem dX8_costOfChoice_29 : decode cX8_costOfChoice 29 = .ok (.aload_n 0, 1) := by decide +kernel
theorem dX8_costOfChoice_30 : decode cX8_costOfChoice 30 = .ok (.getfield 23, 3) := by decide +kernel
theorem dX8_costOfChoice_33 : decode cX8_costOfChoice 33 = .ok (.iconst 1, 1) := by decide +kernel
theorem dX8_costOfChoice_34 : decode cX8_costOfChoice 34 = .ok (.iaload, 1) := by decide +kernel
theorem dX8_costOfChoice_35 : decode cX8_costOfChoice 35 = .ok (.if_icmp .ne 14, 3) := by decide +kernel
theorem dX8_costOfChoice_38 : decode cX8_costOfChoice 38 = .ok (.lload_n 1, 1) := by decide +kernel
theorem dX8_costOfChoice_39 : decode cX8_costOfChoice 39 = .ok (.aload_n 0, 1) := by decide +kernel
theorem dX8_costOfChoice_40 : decode cX8_costOfChoice 40 = .ok (.getfield 33, 3) := by decide +kernel
theorem dX8_costOfChoice_43 : decode cX8_costOfChoice 43 = .ok (.i2l, 1) := by decide +kernel
theorem dX8_costOfChoice_44 : decode cX8_costOfChoice 44 = .ok (.ladd, 1) := by decide +kernel
theorem dX8_costOfChoice_45 : decode cX8_costOfChoice 45 = .ok (.lstore_n 1, 1) := by decide +kernel
theorem dX8_costOfChoice_46 : decode cX8_costOfChoice 46 = .ok (.goto 58, 3) := by decide +kernel
theorem dX8_costOfChoice_49 : decode cX8_costOfChoice 49 = .ok (.aload_n 0, 1) := by decide +kernel
theorem dX8_costOfChoice_50 : decode cX8_costOfChoice 50 = .ok (.getfield 51, 3) := by decide +kernel
theorem dX8_costOfChoice_53 : decode cX8_costOfChoice 53 = .ok (.bipush 6, 2) := by decide +kernel
theorem dX8_costOfChoice_55 : decode cX8_costOfChoice 55 = .ok (.iload 4, 2) := by decide +kernel
theorem dX8_costOfChoice_57 : decode cX8_costOfChoice 57 = .ok (.imul, 1) := by decide +kernel
theorem dX8_costOfChoice_58 : decode cX8_costOfChoice 58 = .ok (.iload 5, 2) := by decide +kernel
theorem dX8_costOfChoice_60 : decode cX8_costOfChoice 60 = .ok (.iadd, 1) := by decide +kernel
theorem dX8_costOfChoice_61 : decode cX8_costOfChoice 61 = .ok (.laload, 1) := by decide +kernel
theorem dX8_costOfChoice_62 : decode cX8_costOfChoice 62 = .ok (.lconst 0, 1) := by decide +kernel
theorem dX8_costOfChoice_63 : decode cX8_costOfChoice 63 = .ok (.lcmp, 1) := by decide +kernel
theorem dX8_costOfChoice_64 : decode cX8_costOfChoice 64 = .ok (.ifCond .lt 13, 3) := by decide +kernel
theorem dX8_costOfChoice_67 : decode cX8_costOfChoice 67 = .ok (.iload_n 3, 1) := by decide +kernel
theorem dX8_costOfChoice_68 : decode cX8_costOfChoice 68 = .ok (.iload 5, 2) := by decide +kernel
theorem dX8_costOfChoice_70 : decode cX8_costOfChoice 70 = .ok (.ishr, 1) := by decide +kernel
theorem dX8_costOfChoice_71 : decode cX8_costOfChoice 71 = .ok (.iconst 1, 1) := by decide +kernel
theorem dX8_costOfChoice_72 : decode cX8_costOfChoice 72 = .ok (.iand, 1) := by decide +kernel
theorem dX8_costOfChoice_73 : decode cX8_costOfChoice 73 = .ok (.iconst 1, 1) := by decide +kernel
theorem dX8_costOfChoice_74 : decode cX8_costOfChoice 74 = .ok (.if_icmp .ne 7, 3) := by decide +kernel
theorem dX8_costOfChoice_77 : decode cX8_costOfChoice 77 = .ok (.ldc2_w 227, 3) := by decide +kernel
theorem dX8_costOfChoice_80 : decode cX8_costOfChoice 80 = .ok (.lreturn, 1) := by decide +kernel
theorem dX8_costOfChoice_81 : decode cX8_costOfChoice 81 = .ok (.iload_n 3, 1) := by decide +kernel
theorem dX8_costOfChoice_82 : decode cX8_costOfChoice 82 = .ok (.iconst 1, 1) := by decide +kernel
theorem dX8_costOfChoice_83 : decode cX8_costOfChoice 83 = .ok (.iload 5, 2) := by decide +kernel
theorem dX8_costOfChoice_85 : decode cX8_costOfChoice 85 = .ok (.ishl, 1) := by decide +kernel
theorem dX8_costOfChoice_86 : decode cX8_costOfChoice 86 = .ok (.ior, 1) := by decide +kernel
theorem dX8_costOfChoice_87 : decode cX8_costOfChoice 87 = .ok (.istore_n 3, 1) := by decide +kernel
theorem dX8_costOfChoice_88 : decode cX8_costOfChoice 88 = .ok (.lload_n 1, 1) := by decide +kernel
theorem dX8_costOfChoice_89 : decode cX8_costOfChoice 89 = .ok (.aload_n 0, 1) := by decide +kernel
theorem dX8_costOfChoice_90 : decode cX8_costOfChoice 90 = .ok (.getfield 51, 3) := by decide +kernel
theorem dX8_costOfChoice_93 : decode cX8_costOfChoice 93 = .ok (.bipush 6, 2) := by decide +kernel
theorem dX8_costOfChoice_95 : decode cX8_costOfChoice 95 = .ok (.iload 4, 2) := by decide +kernel
theorem dX8_costOfChoice_97 : decode cX8_costOfChoice 97 = .ok (.imul, 1) := by decide +kernel
theorem dX8_costOfChoice_98 : decode cX8_costOfChoice 98 = .ok (.iload 5, 2) := by decide +kernel
theorem dX8_costOfChoice_100 : decode cX8_costOfChoice 100 = .ok (.iadd, 1) := by decide +kernel
theorem dX8_costOfChoice_101 : decode cX8_costOfChoice 101 = .ok (.laload, 1) := by decide +kernel
theorem dX8_costOfChoice_102 : decode cX8_costOfChoice 102 = .ok (.ladd, 1) := by decide +kernel
theorem dX8_costOfChoice_103 : decode cX8_costOfChoice 103 = .ok (.lstore_n 1, 1) := by decide +kernel
theorem dX8_costOfChoice_104 : decode cX8_costOfChoice 104 = .ok (.iinc 4 1, 3) := by decide +kernel
theorem dX8_costOfChoice_107 : decode cX8_costOfChoice 107 = .ok (.goto (-100), 3) := by decide +kernel
theorem dX8_costOfChoice_110 : decode cX8_costOfChoice 110 = .ok (.lload_n 1, 1) := by decide +kernel
theorem dX8_costOfChoice_111 : decode cX8_costOfChoice 111 = .ok (.lreturn, 1) := by decide +kernel
set_option maxRecDepth 20000 in
theorem ggX8_findMatch_X8_counting : GoodIn wsX8_findMatch wsX8_counting := goodIn_r _ [10, 11, 12, 13, 73, 74, 75, 76, 77, 78, 79, 80, 81, 82, 83, 84, 85, 86, 87, 88, 89, 90, 91, 92, 93, 94, 95, 96, 97, 98, 99, 100, 101, 102, 103, 104, 105, 106, 107, 108] (by decide +kernel) (by decide +kernel)
set_option maxRecDepth 20000 in
theorem gX8_findMatch_X8_counting : GoodIn wsX8_findMatch (wsV RX8 153 RX8 yX8_counting wsX8_counting) := goodIn_app (goodIn_of _ (by decide +kernel)) ggX8_findMatch_X8_counting
set_option maxRecDepth 20000 in
theorem ggX8_findMatch_X8_fit : GoodIn wsX8_findMatch wsX8_fit := goodIn_r _ [17, 18, 19, 20, 9, 21, 22, 23, 24, 25, 26, 27, 28, 29, 30, 31, 32, 33, 34, 35, 36, 37, 38, 39, 40, 11, 41, 42, 43, 44, 45, 46, 47, 48, 49, 50, 51, 52, 53, 54, 55, 73, 74, 75, 76, 77, 78, 79, 80, 81, 82, 83, 84, 85, 86, 87, 88, 89, 90, 91, 92, 93, 94, 95, 96, 97, 98, 99, 100, 101, 102, 103, 104, 105, 106, 107, 108] (by decide +kernel) (by decide +kernel)
set_option maxRecDepth 20000 in
theorem gX8_findMatch_X8_fit : GoodIn wsX8_findMatch (wsV RX8 157 RX8 yX8_fit wsX8_fit) := goodIn_app (goodIn_of _ (by decide +kernel)) ggX8_findMatch_X8_fit
set_option maxRecDepth 20000 in
theorem ggX8_findMatch_X8_findCosts : GoodIn wsX8_findMatch wsX8_findCosts := goodIn_r _ [59, 5, 60, 22, 23, 24, 25, 26, 27, 28, 29, 61, 2, 62, 63, 9, 64, 34, 65, 66, 67, 73, 74, 75, 76, 77, 78, 79, 80, 81, 82, 83, 84, 85, 86, 87, 88, 89, 90, 91, 92, 93, 94, 95, 96, 97, 98, 99, 100, 101, 102, 103, 104, 105, 106, 107, 108] (by decide +kernel) (by decide +kernel)
set_option maxRecDepth 20000 in
theorem gX8_findMatch_X8_findCosts : GoodIn wsX8_findMatch (wsV RX8 229 RX8 yX8_findCosts wsX8_findCosts) := goodIn_app (goodIn_of _ (by decide +kernel)) ggX8_findMatch_X8_findCosts
set_option maxRecDepth 20000 in
theorem ggX8_findMatch_X8_costOfChoice : GoodIn wsX8_findMatch wsX8_costOfChoice := goodIn_r _ [71, 5, 1, 72, 61, 2, 73, 74, 75, 76, 77, 78, 79, 80, 81, 82, 83, 84, 85, 86, 87, 88, 89, 90, 91, 92, 93, 94, 95, 96, 97, 98, 99, 100, 101, 102, 103, 104, 105, 106, 107, 108] (by decide +kernel) (by decide +kernel)
set_option maxRecDepth 20000 in
theorem gX8_findMatch_X8_costOfChoice : GoodIn wsX8_findMatch (wsV RX8 235 RX8 yX8_costOfChoice wsX8_costOfChoice) := goodIn_app (goodIn_of _ (by decide +kernel)) ggX8_findMatch_X8_costOfChoice
theorem dX8_findMatch_0 : decode cX8_findMatch 0 = .ok (.aload_n 0, 1) := by decide +kernel
theorem dX8_findMatch_1 : decode cX8_findMatch 1 = .ok (.iload_n 1, 1) := by decide +kernel
theorem dX8_findMatch_2 : decode cX8_findMatch 2 = .ok (.aload_n 0, 1) := by decide +kernel
theorem dX8_findMatch_3 : decode cX8_findMatch 3 = .ok (.invokevirtual 153, 3) := by decide +kernel
theorem dX8_findMatch_6 : decode cX8_findMatch 6 = .ok (.invokevirtual 157, 3) := by decide +kernel
theorem dX8_findMatch_9 : decode cX8_findMatch 9 = .ok (.ifCond .ne 5, 3) := by decide +kernel
theorem dX8_findMatch_12 : decode cX8_findMatch 12 = .ok (.iconst 0, 1) := by decide +kernel
theorem dX8_findMatch_13 : decode cX8_findMatch 13 = .ok (.ireturn, 1) := by decide +kernel
theorem dX8_findMatch_14 : decode cX8_findMatch 14 = .ok (.aload_n 0, 1) := by decide +kernel
theorem dX8_findMatch_15 : decode cX8_findMatch 15 = .ok (.invokevirtual 229, 3) := by decide +kernel
theorem dX8_findMatch_18 : decode cX8_findMatch 18 = .ok (.iconst 0, 1) := by decide +kernel
theorem dX8_findMatch_19 : decode cX8_findMatch 19 = .ok (.istore_n 2, 1) := by decide +kernel
theorem dX8_findMatch_20 : decode cX8_findMatch 20 = .ok (.iload_n 2, 1) := by decide +kernel
theorem dX8_findMatch_21 : decode cX8_findMatch 21 = .ok (.bipush 6, 2) := by decide +kernel
theorem dX8_findMatch_23 : decode cX8_findMatch 23 = .ok (.if_icmp .ge 16, 3) := by decide +kernel
theorem dX8_findMatch_26 : decode cX8_findMatch 26 = .ok (.aload_n 0, 1) := by decide +kernel
theorem dX8_findMatch_27 : decode cX8_findMatch 27 = .ok (.getfield 55, 3) := by decide +kernel
theorem dX8_findMatch_30 : decode cX8_findMatch 30 = .ok (.iload_n 2, 1) := by decide +kernel
theorem dX8_findMatch_31 : decode cX8_findMatch 31 = .ok (.iconst 0, 1) := by decide +kernel
theorem dX8_findMatch_32 : decode cX8_findMatch 32 = .ok (.iastore, 1) := by decide +kernel
theorem dX8_findMatch_33 : decode cX8_findMatch 33 = .ok (.iinc 2 1, 3) := by decide +kernel
theorem dX8_findMatch_36 : decode cX8_findMatch 36 = .ok (.goto (-16), 3) := by decide +kernel
theorem dX8_findMatch_39 : decode cX8_findMatch 39 = .ok (.aload_n 0, 1) := by decide +kernel
theorem dX8_findMatch_40 : decode cX8_findMatch 40 = .ok (.ldc2_w 227, 3) := by decide +kernel
theorem dX8_findMatch_43 : decode cX8_findMatch 43 = .ok (.putfield 232, 3) := by decide +kernel
theorem dX8_findMatch_46 : decode cX8_findMatch 46 = .ok (.iconst 1, 1) := by decide +kernel
theorem dX8_findMatch_47 : decode cX8_findMatch 47 = .ok (.istore_n 2, 1) := by decide +kernel
theorem dX8_findMatch_48 : decode cX8_findMatch 48 = .ok (.iload_n 2, 1) := by decide +kernel
theorem dX8_findMatch_49 : decode cX8_findMatch 49 = .ok (.ifCond .eq 141, 3) := by decide +kernel
theorem dX8_findMatch_52 : decode cX8_findMatch 52 = .ok (.aload_n 0, 1) := by decide +kernel
theorem dX8_findMatch_53 : decode cX8_findMatch 53 = .ok (.invokevirtual 235, 3) := by decide +kernel
theorem dX8_findMatch_56 : decode cX8_findMatch 56 = .ok (.lstore_n 3, 1) := by decide +kernel
theorem dX8_findMatch_57 : decode cX8_findMatch 57 = .ok (.lload_n 3, 1) := by decide +kernel
theorem dX8_findMatch_58 : decode cX8_findMatch 58 = .ok (.lconst 0, 1) := by decide +kernel
theorem dX8_findMatch_59 : decode cX8_findMatch 59 = .ok (.lcmp, 1) := by decide +kernel
theorem dX8_findMatch_60 : decode cX8_findMatch 60 = .ok (.ifCond .lt 56, 3) := by decide +kernel
theorem dX8_findMatch_63 : decode cX8_findMatch 63 = .ok (.aload_n 0, 1) := by decide +kernel
theorem dX8_findMatch_64 : decode cX8_findMatch 64 = .ok (.getfield 232, 3) := by decide +kernel
theorem dX8_findMatch_67 : decode cX8_findMatch 67 = .ok (.lconst 0, 1) := by decide +kernel
theorem dX8_findMatch_68 : decode cX8_findMatch 68 = .ok (.lcmp, 1) := by decide +kernel
theorem dX8_findMatch_69 : decode cX8_findMatch 69 = .ok (.ifCond .lt 12, 3) := by decide +kernel
theorem dX8_findMatch_72 : decode cX8_findMatch 72 = .ok (.lload_n 3, 1) := by decide +kernel
theorem dX8_findMatch_73 : decode cX8_findMatch 73 = .ok (.aload_n 0, 1) := by decide +kernel
theorem dX8_findMatch_74 : decode cX8_findMatch 74 = .ok (.getfield 232, 3) := by decide +kernel
theorem dX8_findMatch_77 : decode cX8_findMatch 77 = .ok (.lcmp, 1) := by decide +kernel
theorem dX8_findMatch_78 : decode cX8_findMatch 78 = .ok (.ifCond .ge 38, 3) := by decide +kernel
theorem dX8_findMatch_81 : decode cX8_findMatch 81 = .ok (.aload_n 0, 1) := by decide +kernel
theorem dX8_findMatch_82 : decode cX8_findMatch 82 = .ok (.lload_n 3, 1) := by decide +kernel
theorem dX8_findMatch_83 : decode cX8_findMatch 83 = .ok (.putfield 232, 3) := by decide +kernel
theorem dX8_findMatch_86 : decode cX8_findMatch 86 = .ok (.iconst 0, 1) := by decide +kernel
theorem dX8_findMatch_87 : decode cX8_findMatch 87 = .ok (.istore 5, 2) := by decide +kernel
theorem dX8_findMatch_89 : decode cX8_findMatch 89 = .ok (.iload 5, 2) := by decide +kernel
theorem dX8_findMatch_91 : decode cX8_findMatch 91 = .ok (.bipush 6, 2) := by decide +kernel
theorem dX8_findMatch_93 : decode cX8_findMatch 93 = .ok (.if_icmp .ge 23, 3) := by decide +kernel
theorem dX8_findMatch_96 : decode cX8_findMatch 96 = .ok (.aload_n 0, 1) := by decide +kernel
theorem dX8_findMatch_97 : decode cX8_findMatch 97 = .ok (.getfield 58, 3) := by decide +kernel
theorem dX8_findMatch_100 : decode cX8_findMatch 100 = .ok (.iload 5, 2) := by decide +kernel
theorem dX8_findMatch_102 : decode cX8_findMatch 102 = .ok (.aload_n 0, 1) := by decide +kernel
theorem dX8_findMatch_103 : decode cX8_findMatch 103 = .ok (.getfield 55, 3) := by decide +kernel
theorem dX8_findMatch_106 : decode cX8_findMatch 106 = .ok (.iload 5, 2) := by decide +kernel
theorem dX8_findMatch_108 : decode cX8_findMatch 108 = .ok (.iaload, 1) := by decide +kernel
theorem dX8_findMatch_109 : decode cX8_findMatch 109 = .ok (.iastore, 1) := by decide +kernel
theorem dX8_findMatch_110 : decode cX8_findMatch 110 = .ok (.iinc 5 1, 3) := by decide +kernel
theorem dX8_findMatch_113 : decode cX8_findMatch 113 = .ok (.goto (-24), 3) := by decide +kernel
theorem dX8_findMatch_116 : decode cX8_findMatch 116 = .ok (.aload_n 0, 1) := by decide +kernel
theorem dX8_findMatch_117 : decode cX8_findMatch 117 = .ok (.getfield 23, 3) := by decide +kernel
theorem dX8_findMatch_120 : decode cX8_findMatch 120 = .ok (.iconst 0, 1) := by decide +kernel
theorem dX8_findMatch_121 : decode cX8_findMatch 121 = .ok (.iaload, 1) := by decide +kernel
theorem dX8_findMatch_122 : decode cX8_findMatch 122 = .ok (.iconst 1, 1) := by decide +kernel
theorem dX8_findMatch_123 : decode cX8_findMatch 123 = .ok (.isub, 1) := by decide +kernel
theorem dX8_findMatch_124 : decode cX8_findMatch 124 = .ok (.istore 5, 2) := by decide +kernel
theorem dX8_findMatch_126 : decode cX8_findMatch 126 = .ok (.iload 5, 2) := by decide +kernel
theorem dX8_findMatch_128 : decode cX8_findMatch 128 = .ok (.ifCond .lt 33, 3) := by decide +kernel
theorem dX8_findMatch_131 : decode cX8_findMatch 131 = .ok (.aload_n 0, 1) := by decide +kernel
theorem dX8_findMatch_132 : decode cX8_findMatch 132 = .ok (.getfield 55, 3) := by decide +kernel
theorem dX8_findMatch_135 : decode cX8_findMatch 135 = .ok (.iload 5, 2) := by decide +kernel
theorem dX8_findMatch_137 : decode cX8_findMatch 137 = .ok (.iaload, 1) := by decide +kernel
theorem dX8_findMatch_138 : decode cX8_findMatch 138 = .ok (.aload_n 0, 1) := by decide +kernel
theorem dX8_findMatch_139 : decode cX8_findMatch 139 = .ok (.getfield 23, 3) := by decide +kernel
theorem dX8_findMatch_142 : decode cX8_findMatch 142 = .ok (.iconst 1, 1) := by decide +kernel
theorem dX8_findMatch_143 : decode cX8_findMatch 143 = .ok (.iaload, 1) := by decide +kernel
theorem dX8_findMatch_144 : decode cX8_findMatch 144 = .ok (.if_icmp .ne 17, 3) := by decide +kernel
theorem dX8_findMatch_147 : decode cX8_findMatch 147 = .ok (.aload_n 0, 1) := by decide +kernel
theorem dX8_findMatch_148 : decode cX8_findMatch 148 = .ok (.getfield 55, 3) := by decide +kernel
theorem dX8_findMatch_151 : decode cX8_findMatch 151 = .ok (.iload 5, 2) := by decide +kernel
theorem dX8_findMatch_153 : decode cX8_findMatch 153 = .ok (.iconst 0, 1) := by decide +kernel
theorem dX8_findMatch_154 : decode cX8_findMatch 154 = .ok (.iastore, 1) := by decide +kernel
theorem dX8_findMatch_155 : decode cX8_findMatch 155 = .ok (.iinc 5 (-1), 3) := by decide +kernel
theorem dX8_findMatch_158 : decode cX8_findMatch 158 = .ok (.goto (-32), 3) := by decide +kernel
theorem dX8_findMatch_161 : decode cX8_findMatch 161 = .ok (.iload 5, 2) := by decide +kernel
theorem dX8_findMatch_163 : decode cX8_findMatch 163 = .ok (.ifCond .lt 7, 3) := by decide +kernel
theorem dX8_findMatch_166 : decode cX8_findMatch 166 = .ok (.iconst 1, 1) := by decide +kernel
theorem dX8_findMatch_167 : decode cX8_findMatch 167 = .ok (.goto 4, 3) := by decide +kernel
theorem dX8_findMatch_170 : decode cX8_findMatch 170 = .ok (.iconst 0, 1) := by decide +kernel
theorem dX8_findMatch_171 : decode cX8_findMatch 171 = .ok (.istore_n 2, 1) := by decide +kernel
theorem dX8_findMatch_172 : decode cX8_findMatch 172 = .ok (.iload_n 2, 1) := by decide +kernel
theorem dX8_findMatch_173 : decode cX8_findMatch 173 = .ok (.ifCond .eq 14, 3) := by decide +kernel
theorem dX8_findMatch_176 : decode cX8_findMatch 176 = .ok (.aload_n 0, 1) := by decide +kernel
theorem dX8_findMatch_177 : decode cX8_findMatch 177 = .ok (.getfield 55, 3) := by decide +kernel
theorem dX8_findMatch_180 : decode cX8_findMatch 180 = .ok (.iload 5, 2) := by decide +kernel
theorem dX8_findMatch_182 : decode cX8_findMatch 182 = .ok (.dup2, 1) := by decide +kernel
theorem dX8_findMatch_183 : decode cX8_findMatch 183 = .ok (.iaload, 1) := by decide +kernel
theorem dX8_findMatch_184 : decode cX8_findMatch 184 = .ok (.iconst 1, 1) := by decide +kernel
theorem dX8_findMatch_185 : decode cX8_findMatch 185 = .ok (.iadd, 1) := by decide +kernel
theorem dX8_findMatch_186 : decode cX8_findMatch 186 = .ok (.iastore, 1) := by decide +kernel
theorem dX8_findMatch_187 : decode cX8_findMatch 187 = .ok (.goto (-139), 3) := by decide +kernel
theorem dX8_findMatch_190 : decode cX8_findMatch 190 = .ok (.iconst 1, 1) := by decide +kernel
theorem dX8_findMatch_191 : decode cX8_findMatch 191 = .ok (.ireturn, 1) := by decide +kernel
set_option maxRecDepth 20000 in
theorem ggX8_match_X8_isKind : GoodIn wsX8_match wsX8_isKind := goodIn_r _ [6, 7, 8, 5, 9] (by decide +kernel) (by decide +kernel)
set_option maxRecDepth 20000 in
theorem gX8_match_X8_isKind : GoodIn wsX8_match (va_wsS RX8 150 yX8_isKind wsX8_isKind) := goodIn_app (goodIn_of _ (by decide +kernel)) ggX8_match_X8_isKind
set_option maxRecDepth 20000 in
theorem ggX8_match_X8_in : GoodIn wsX8_match wsX8_in := goodIn_r _ [9] (by decide +kernel) (by decide +kernel)
set_option maxRecDepth 20000 in
theorem gX8_match_X8_in : GoodIn wsX8_match (va_wsS RX8 61 yX8_in wsX8_in) := goodIn_app (goodIn_of _ (by decide +kernel)) ggX8_match_X8_in
set_option maxRecDepth 20000 in
theorem ggX8_match_X8_findMatch : GoodIn wsX8_match wsX8_findMatch := goodIn_r _ [13, 14, 15, 16, 2, 1, 17, 18, 19, 5, 20, 21, 22, 23, 24, 25, 26, 27, 28, 29, 30, 31, 32, 33, 34, 35, 36, 37, 38, 39, 40, 41, 42, 43, 44, 45, 46, 47, 48, 49, 50, 51, 52, 53, 54, 55, 56, 57, 58, 59, 60, 61, 62, 63, 64, 65, 66, 67, 68, 69, 70, 71, 72, 73, 74, 75, 76, 77, 78, 79, 80, 81, 82, 83, 84, 85, 86, 87, 88, 89, 90, 91, 92, 93, 94, 95, 96, 97, 98, 99, 100, 101, 102, 103, 104, 105, 106, 107, 108, 109, 110, 111, 112, 113, 114, 115, 116, 117, 118] (by decide +kernel) (by decide +kernel)
set_option maxRecDepth 20000 in
theorem gX8_match_X8_findMatch : GoodIn wsX8_match (wsV RX8 239 RX8 yX8_findMatch wsX8_findMatch) := goodIn_app (goodIn_of _ (by decide +kernel)) ggX8_match_X8_findMatch
theorem dX8_match_0 : decode cX8_match 0 = .ok (.iload_n 1, 1) := by decide +kernel
theorem dX8_match_1 : decode cX8_match 1 = .ok (.invokestatic 150, 3) := by decide +kernel
theorem dX8_match_4 : decode cX8_match 4 = .ok (.ifCond .eq 19, 3) := by decide +kernel
theorem dX8_match_7 : decode cX8_match 7 = .ok (.iload_n 2, 1) := by decide +kernel
theorem dX8_match_8 : decode cX8_match 8 = .ok (.iconst 0, 1) := by decide +kernel
theorem dX8_match_9 : decode cX8_match 9 = .ok (.aload_n 0, 1) := by decide +kernel
theorem dX8_match_10 : decode cX8_match 10 = .ok (.getfield 23, 3) := by decide +kernel
theorem dX8_match_13 : decode cX8_match 13 = .ok (.iconst 0, 1) := by decide +kernel
theorem dX8_match_14 : decode cX8_match 14 = .ok (.iaload, 1) := by decide +kernel
theorem dX8_match_15 : decode cX8_match 15 = .ok (.iconst 1, 1) := by decide +kernel
theorem dX8_match_16 : decode cX8_match 16 = .ok (.isub, 1) := by decide +kernel
theorem dX8_match_17 : decode cX8_match 17 = .ok (.invokestatic 61, 3) := by decide +kernel
theorem dX8_match_20 : decode cX8_match 20 = .ok (.ifCond .ne 5, 3) := by decide +kernel
theorem dX8_match_23 : decode cX8_match 23 = .ok (.iconst (-1), 1) := by decide +kernel
theorem dX8_match_24 : decode cX8_match 24 = .ok (.ireturn, 1) := by decide +kernel
theorem dX8_match_25 : decode cX8_match 25 = .ok (.aload_n 0, 1) := by decide +kernel
theorem dX8_match_26 : decode cX8_match 26 = .ok (.iload_n 1, 1) := by decide +kernel
theorem dX8_match_27 : decode cX8_match 27 = .ok (.invokevirtual 239, 3) := by decide +kernel
theorem dX8_match_30 : decode cX8_match 30 = .ok (.ifCond .ne 6, 3) := by decide +kernel
theorem dX8_match_33 : decode cX8_match 33 = .ok (.bipush (-3), 2) := by decide +kernel
theorem dX8_match_35 : decode cX8_match 35 = .ok (.ireturn, 1) := by decide +kernel
theorem dX8_match_36 : decode cX8_match 36 = .ok (.aload_n 0, 1) := by decide +kernel
theorem dX8_match_37 : decode cX8_match 37 = .ok (.getfield 58, 3) := by decide +kernel
theorem dX8_match_40 : decode cX8_match 40 = .ok (.iload_n 2, 1) := by decide +kernel
theorem dX8_match_41 : decode cX8_match 41 = .ok (.iaload, 1) := by decide +kernel
theorem dX8_match_42 : decode cX8_match 42 = .ok (.aload_n 0, 1) := by decide +kernel
theorem dX8_match_43 : decode cX8_match 43 = .ok (.getfield 23, 3) := by decide +kernel
theorem dX8_match_46 : decode cX8_match 46 = .ok (.iconst 1, 1) := by decide +kernel
theorem dX8_match_47 : decode cX8_match 47 = .ok (.iaload, 1) := by decide +kernel
theorem dX8_match_48 : decode cX8_match 48 = .ok (.if_icmp .ge 12, 3) := by decide +kernel
theorem dX8_match_51 : decode cX8_match 51 = .ok (.aload_n 0, 1) := by decide +kernel
theorem dX8_match_52 : decode cX8_match 52 = .ok (.getfield 58, 3) := by decide +kernel
theorem dX8_match_55 : decode cX8_match 55 = .ok (.iload_n 2, 1) := by decide +kernel
theorem dX8_match_56 : decode cX8_match 56 = .ok (.iaload, 1) := by decide +kernel
theorem dX8_match_57 : decode cX8_match 57 = .ok (.goto 5, 3) := by decide +kernel
theorem dX8_match_60 : decode cX8_match 60 = .ok (.bipush (-5), 2) := by decide +kernel
theorem dX8_match_62 : decode cX8_match 62 = .ok (.ireturn, 1) := by decide +kernel
set_option maxRecDepth 20000 in
theorem ggX8_cost_X8_isKind : GoodIn wsX8_cost wsX8_isKind := goodIn_r _ [5, 6, 7, 4, 8] (by decide +kernel) (by decide +kernel)
set_option maxRecDepth 20000 in
theorem gX8_cost_X8_isKind : GoodIn wsX8_cost (va_wsS RX8 150 yX8_isKind wsX8_isKind) := goodIn_app (goodIn_of _ (by decide +kernel)) ggX8_cost_X8_isKind
set_option maxRecDepth 20000 in
theorem ggX8_cost_X8_findMatch : GoodIn wsX8_cost wsX8_findMatch := goodIn_r _ [12, 13, 14, 1, 15, 16, 17, 18, 19, 4, 20, 21, 22, 23, 24, 25, 26, 27, 28, 29, 30, 31, 32, 33, 34, 35, 36, 37, 38, 39, 40, 41, 42, 43, 44, 45, 46, 47, 48, 49, 50, 51, 52, 53, 54, 55, 56, 57, 58, 59, 60, 61, 62, 63, 64, 65, 66, 67, 68, 69, 70, 71, 72, 73, 74, 75, 76, 77, 78, 79, 80, 81, 82, 83, 84, 85, 86, 87, 88, 89, 90, 91, 92, 93, 94, 95, 96, 97, 98, 99, 100, 101, 102, 103, 104, 105, 106, 107, 108, 109, 110, 111, 112, 113, 114, 115, 116, 117, 118] (by decide +kernel) (by decide +kernel)
set_option maxRecDepth 20000 in
theorem gX8_cost_X8_findMatch : GoodIn wsX8_cost (wsV RX8 239 RX8 yX8_findMatch wsX8_findMatch) := goodIn_app (goodIn_of _ (by decide +kernel)) ggX8_cost_X8_findMatch
theorem dX8_cost_0 : decode cX8_cost 0 = .ok (.iload_n 1, 1) := by decide +kernel
theorem dX8_cost_1 : decode cX8_cost 1 = .ok (.invokestatic 150, 3) := by decide +kernel
theorem dX8_cost_4 : decode cX8_cost 4 = .ok (.ifCond .ne 5, 3) := by decide +kernel
theorem dX8_cost_7 : decode cX8_cost 7 = .ok (.iconst (-1), 1) := by decide +kernel
theorem dX8_cost_8 : decode cX8_cost 8 = .ok (.ireturn, 1) := by decide +kernel
theorem dX8_cost_9 : decode cX8_cost 9 = .ok (.aload_n 0, 1) := by decide +kernel
theorem dX8_cost_10 : decode cX8_cost 10 = .ok (.iload_n 1, 1) := by decide +kernel
theorem dX8_cost_11 : decode cX8_cost 11 = .ok (.invokevirtual 239, 3) := by decide +kernel
theorem dX8_cost_14 : decode cX8_cost 14 = .ok (.ifCond .eq 11, 3) := by decide +kernel
theorem dX8_cost_17 : decode cX8_cost 17 = .ok (.aload_n 0, 1) := by decide +kernel
theorem dX8_cost_18 : decode cX8_cost 18 = .ok (.getfield 232, 3) := by decide +kernel
theorem dX8_cost_21 : decode cX8_cost 21 = .ok (.l2i, 1) := by decide +kernel
theorem dX8_cost_22 : decode cX8_cost 22 = .ok (.goto 5, 3) := by decide +kernel
theorem dX8_cost_25 : decode cX8_cost 25 = .ok (.bipush (-3), 2) := by decide +kernel
theorem dX8_cost_27 : decode cX8_cost 27 = .ok (.ireturn, 1) := by decide +kernel
set_option maxRecDepth 20000 in
theorem ggX8_left_X8_isKind : GoodIn wsX8_left wsX8_isKind := goodIn_r _ [6, 7, 8, 5, 9] (by decide +kernel) (by decide +kernel)
set_option maxRecDepth 20000 in
theorem gX8_left_X8_isKind : GoodIn wsX8_left (va_wsS RX8 150 yX8_isKind wsX8_isKind) := goodIn_app (goodIn_of _ (by decide +kernel)) ggX8_left_X8_isKind
set_option maxRecDepth 20000 in
theorem ggX8_left_X8_findMatch : GoodIn wsX8_left wsX8_findMatch := goodIn_r _ [13, 14, 15, 16, 2, 1, 17, 18, 19, 5, 20, 21, 22, 23, 24, 25, 26, 27, 28, 29, 30, 31, 32, 33, 34, 35, 36, 37, 38, 39, 40, 41, 42, 43, 44, 45, 46, 47, 48, 49, 50, 51, 52, 53, 54, 55, 56, 57, 58, 59, 60, 61, 62, 63, 64, 65, 66, 67, 68, 69, 70, 71, 72, 73, 74, 75, 76, 77, 78, 79, 80, 81, 82, 83, 84, 85, 86, 87, 88, 89, 90, 91, 92, 93, 94, 95, 96, 97, 98, 99, 100, 101, 102, 103, 104, 105, 106, 107, 108, 109, 110, 111, 112, 113, 114, 115, 116, 117, 118] (by decide +kernel) (by decide +kernel)
set_option maxRecDepth 20000 in
theorem gX8_left_X8_findMatch : GoodIn wsX8_left (wsV RX8 239 RX8 yX8_findMatch wsX8_findMatch) := goodIn_app (goodIn_of _ (by decide +kernel)) ggX8_left_X8_findMatch
theorem dX8_left_0 : decode cX8_left 0 = .ok (.iload_n 1, 1) := by decide +kernel
theorem dX8_left_1 : decode cX8_left 1 = .ok (.invokestatic 150, 3) := by decide +kernel
theorem dX8_left_4 : decode cX8_left 4 = .ok (.ifCond .ne 5, 3) := by decide +kernel
theorem dX8_left_7 : decode cX8_left 7 = .ok (.iconst (-1), 1) := by decide +kernel
theorem dX8_left_8 : decode cX8_left 8 = .ok (.ireturn, 1) := by decide +kernel
theorem dX8_left_9 : decode cX8_left 9 = .ok (.aload_n 0, 1) := by decide +kernel
theorem dX8_left_10 : decode cX8_left 10 = .ok (.iload_n 1, 1) := by decide +kernel
theorem dX8_left_11 : decode cX8_left 11 = .ok (.invokevirtual 239, 3) := by decide +kernel
theorem dX8_left_14 : decode cX8_left 14 = .ok (.ifCond .ne 6, 3) := by decide +kernel
theorem dX8_left_17 : decode cX8_left 17 = .ok (.bipush (-3), 2) := by decide +kernel
theorem dX8_left_19 : decode cX8_left 19 = .ok (.ireturn, 1) := by decide +kernel
theorem dX8_left_20 : decode cX8_left 20 = .ok (.iconst 0, 1) := by decide +kernel
theorem dX8_left_21 : decode cX8_left 21 = .ok (.istore_n 2, 1) := by decide +kernel
theorem dX8_left_22 : decode cX8_left 22 = .ok (.iconst 0, 1) := by decide +kernel
theorem dX8_left_23 : decode cX8_left 23 = .ok (.istore_n 3, 1) := by decide +kernel
theorem dX8_left_24 : decode cX8_left 24 = .ok (.iload_n 3, 1) := by decide +kernel
theorem dX8_left_25 : decode cX8_left 25 = .ok (.aload_n 0, 1) := by decide +kernel
theorem dX8_left_26 : decode cX8_left 26 = .ok (.getfield 23, 3) := by decide +kernel
theorem dX8_left_29 : decode cX8_left 29 = .ok (.iconst 0, 1) := by decide +kernel
theorem dX8_left_30 : decode cX8_left 30 = .ok (.iaload, 1) := by decide +kernel
theorem dX8_left_31 : decode cX8_left 31 = .ok (.if_icmp .ge 20, 3) := by decide +kernel
theorem dX8_left_34 : decode cX8_left 34 = .ok (.iload_n 2, 1) := by decide +kernel
theorem dX8_left_35 : decode cX8_left 35 = .ok (.iconst 1, 1) := by decide +kernel
theorem dX8_left_36 : decode cX8_left 36 = .ok (.aload_n 0, 1) := by decide +kernel
theorem dX8_left_37 : decode cX8_left 37 = .ok (.getfield 58, 3) := by decide +kernel
theorem dX8_left_40 : decode cX8_left 40 = .ok (.iload_n 3, 1) := by decide +kernel
theorem dX8_left_41 : decode cX8_left 41 = .ok (.iaload, 1) := by decide +kernel
theorem dX8_left_42 : decode cX8_left 42 = .ok (.ishl, 1) := by decide +kernel
theorem dX8_left_43 : decode cX8_left 43 = .ok (.ior, 1) := by decide +kernel
theorem dX8_left_44 : decode cX8_left 44 = .ok (.istore_n 2, 1) := by decide +kernel
theorem dX8_left_45 : decode cX8_left 45 = .ok (.iinc 3 1, 3) := by decide +kernel
theorem dX8_left_48 : decode cX8_left 48 = .ok (.goto (-24), 3) := by decide +kernel
theorem dX8_left_51 : decode cX8_left 51 = .ok (.iconst 0, 1) := by decide +kernel
theorem dX8_left_52 : decode cX8_left 52 = .ok (.istore_n 3, 1) := by decide +kernel
theorem dX8_left_53 : decode cX8_left 53 = .ok (.iload_n 3, 1) := by decide +kernel
theorem dX8_left_54 : decode cX8_left 54 = .ok (.aload_n 0, 1) := by decide +kernel
theorem dX8_left_55 : decode cX8_left 55 = .ok (.getfield 23, 3) := by decide +kernel
theorem dX8_left_58 : decode cX8_left 58 = .ok (.iconst 1, 1) := by decide +kernel
theorem dX8_left_59 : decode cX8_left 59 = .ok (.iaload, 1) := by decide +kernel
theorem dX8_left_60 : decode cX8_left 60 = .ok (.if_icmp .ge 19, 3) := by decide +kernel
theorem dX8_left_63 : decode cX8_left 63 = .ok (.iload_n 2, 1) := by decide +kernel
theorem dX8_left_64 : decode cX8_left 64 = .ok (.iload_n 3, 1) := by decide +kernel
theorem dX8_left_65 : decode cX8_left 65 = .ok (.ishr, 1) := by decide +kernel
theorem dX8_left_66 : decode cX8_left 66 = .ok (.iconst 1, 1) := by decide +kernel
theorem dX8_left_67 : decode cX8_left 67 = .ok (.iand, 1) := by decide +kernel
theorem dX8_left_68 : decode cX8_left 68 = .ok (.ifCond .ne 5, 3) := by decide +kernel
theorem dX8_left_71 : decode cX8_left 71 = .ok (.iload_n 3, 1) := by decide +kernel
theorem dX8_left_72 : decode cX8_left 72 = .ok (.ireturn, 1) := by decide +kernel
theorem dX8_left_73 : decode cX8_left 73 = .ok (.iinc 3 1, 3) := by decide +kernel
theorem dX8_left_76 : decode cX8_left 76 = .ok (.goto (-23), 3) := by decide +kernel
theorem dX8_left_79 : decode cX8_left 79 = .ok (.bipush (-5), 2) := by decide +kernel
theorem dX8_left_81 : decode cX8_left 81 = .ok (.ireturn, 1) := by decide +kernel
set_option maxRecDepth 20000 in
theorem ggX8_inState_X8_stateOf : GoodIn wsX8_inState wsX8_stateOf := goodIn_r _ [6, 7, 8, 9, 5, 10, 11, 12, 13, 14, 15, 16, 17, 18, 19, 20, 21, 22, 23, 24, 25, 26, 27, 28, 29, 30, 31, 32, 33, 34, 35, 36, 37, 38, 39, 40, 41, 42, 43, 44, 45, 46, 47, 48, 49, 50, 51, 52, 53, 54, 55, 56, 57, 58, 59, 60, 61, 62, 63] (by decide +kernel) (by decide +kernel)
set_option maxRecDepth 20000 in
theorem gX8_inState_X8_stateOf : GoodIn wsX8_inState (wsV RX8 208 RX8 yX8_stateOf wsX8_stateOf) := goodIn_app (goodIn_of _ (by decide +kernel)) ggX8_inState_X8_stateOf
theorem dX8_inState_0 : decode cX8_inState 0 = .ok (.iconst 0, 1) := by decide +kernel
theorem dX8_inState_1 : decode cX8_inState 1 = .ok (.istore_n 2, 1) := by decide +kernel
theorem dX8_inState_2 : decode cX8_inState 2 = .ok (.iconst 0, 1) := by decide +kernel
theorem dX8_inState_3 : decode cX8_inState 3 = .ok (.istore_n 3, 1) := by decide +kernel
theorem dX8_inState_4 : decode cX8_inState 4 = .ok (.iload_n 3, 1) := by decide +kernel
theorem dX8_inState_5 : decode cX8_inState 5 = .ok (.aload_n 0, 1) := by decide +kernel
theorem dX8_inState_6 : decode cX8_inState 6 = .ok (.getfield 183, 3) := by decide +kernel
theorem dX8_inState_9 : decode cX8_inState 9 = .ok (.if_icmp .ge 26, 3) := by decide +kernel
theorem dX8_inState_12 : decode cX8_inState 12 = .ok (.iload_n 2, 1) := by decide +kernel
theorem dX8_inState_13 : decode cX8_inState 13 = .ok (.aload_n 0, 1) := by decide +kernel
theorem dX8_inState_14 : decode cX8_inState 14 = .ok (.iload_n 3, 1) := by decide +kernel
theorem dX8_inState_15 : decode cX8_inState 15 = .ok (.invokevirtual 208, 3) := by decide +kernel
theorem dX8_inState_18 : decode cX8_inState 18 = .ok (.iload_n 1, 1) := by decide +kernel
theorem dX8_inState_19 : decode cX8_inState 19 = .ok (.if_icmp .ne 7, 3) := by decide +kernel
theorem dX8_inState_22 : decode cX8_inState 22 = .ok (.iconst 1, 1) := by decide +kernel
theorem dX8_inState_23 : decode cX8_inState 23 = .ok (.goto 4, 3) := by decide +kernel
theorem dX8_inState_26 : decode cX8_inState 26 = .ok (.iconst 0, 1) := by decide +kernel
theorem dX8_inState_27 : decode cX8_inState 27 = .ok (.iadd, 1) := by decide +kernel
theorem dX8_inState_28 : decode cX8_inState 28 = .ok (.istore_n 2, 1) := by decide +kernel
theorem dX8_inState_29 : decode cX8_inState 29 = .ok (.iinc 3 1, 3) := by decide +kernel
theorem dX8_inState_32 : decode cX8_inState 32 = .ok (.goto (-28), 3) := by decide +kernel
theorem dX8_inState_35 : decode cX8_inState 35 = .ok (.iload_n 2, 1) := by decide +kernel
theorem dX8_inState_36 : decode cX8_inState 36 = .ok (.ireturn, 1) := by decide +kernel
set_option maxRecDepth 20000 in
theorem ggX8_meetings_X8_isFlat : GoodIn wsX8_meetings wsX8_isFlat := goodIn_r _ [6, 7, 8, 9, 5, 10, 11, 12, 13, 14, 15, 16, 17, 18, 19, 20, 21, 22, 23, 32, 33, 34, 35, 36, 37, 38, 39, 40, 41, 42, 43, 44, 45, 46, 47, 48, 49, 50, 51, 52, 53, 54, 55, 56, 57, 58, 59, 60, 61, 62, 63, 64, 65, 66, 67] (by decide +kernel) (by decide +kernel)
set_option maxRecDepth 20000 in
theorem gX8_meetings_X8_isFlat : GoodIn wsX8_meetings (wsV RX8 202 RX8 yX8_isFlat wsX8_isFlat) := goodIn_app (goodIn_of _ (by decide +kernel)) ggX8_meetings_X8_isFlat
set_option maxRecDepth 20000 in
theorem ggX8_meetings_X8_doMeet : GoodIn wsX8_meetings wsX8_doMeet := goodIn_r _ [27, 28, 29, 30, 5, 31, 7, 8, 9, 10, 11, 12, 13, 14, 15, 16, 17, 18, 19, 20, 21, 22, 23, 32, 33, 34, 35, 36, 37, 38, 39, 40, 41, 42, 43, 44, 45, 46, 47, 48, 49, 50, 51, 52, 53, 54, 55, 56, 57, 58, 59, 60, 61, 62, 63, 64, 65, 66, 67] (by decide +kernel) (by decide +kernel)
set_option maxRecDepth 20000 in
theorem gX8_meetings_X8_doMeet : GoodIn wsX8_meetings (wsV RX8 218 RX8 yX8_doMeet wsX8_doMeet) := goodIn_app (goodIn_of _ (by decide +kernel)) ggX8_meetings_X8_doMeet
theorem dX8_meetings_0 : decode cX8_meetings 0 = .ok (.iconst 0, 1) := by decide +kernel
theorem dX8_meetings_1 : decode cX8_meetings 1 = .ok (.istore_n 2, 1) := by decide +kernel
theorem dX8_meetings_2 : decode cX8_meetings 2 = .ok (.iconst 0, 1) := by decide +kernel
theorem dX8_meetings_3 : decode cX8_meetings 3 = .ok (.istore_n 3, 1) := by decide +kernel
theorem dX8_meetings_4 : decode cX8_meetings 4 = .ok (.iload_n 3, 1) := by decide +kernel
theorem dX8_meetings_5 : decode cX8_meetings 5 = .ok (.aload_n 0, 1) := by decide +kernel
theorem dX8_meetings_6 : decode cX8_meetings 6 = .ok (.getfield 183, 3) := by decide +kernel
theorem dX8_meetings_9 : decode cX8_meetings 9 = .ok (.if_icmp .ge 60, 3) := by decide +kernel
theorem dX8_meetings_12 : decode cX8_meetings 12 = .ok (.iconst 0, 1) := by decide +kernel
theorem dX8_meetings_13 : decode cX8_meetings 13 = .ok (.istore 4, 2) := by decide +kernel
theorem dX8_meetings_15 : decode cX8_meetings 15 = .ok (.iload 4, 2) := by decide +kernel
theorem dX8_meetings_17 : decode cX8_meetings 17 = .ok (.iload_n 3, 1) := by decide +kernel
theorem dX8_meetings_18 : decode cX8_meetings 18 = .ok (.if_icmp .ge 45, 3) := by decide +kernel
theorem dX8_meetings_21 : decode cX8_meetings 21 = .ok (.iload_n 2, 1) := by decide +kernel
theorem dX8_meetings_22 : decode cX8_meetings 22 = .ok (.aload_n 0, 1) := by decide +kernel
theorem dX8_meetings_23 : decode cX8_meetings 23 = .ok (.iload_n 3, 1) := by decide +kernel
theorem dX8_meetings_24 : decode cX8_meetings 24 = .ok (.invokevirtual 202, 3) := by decide +kernel
theorem dX8_meetings_27 : decode cX8_meetings 27 = .ok (.ifCond .ne 27, 3) := by decide +kernel
theorem dX8_meetings_30 : decode cX8_meetings 30 = .ok (.aload_n 0, 1) := by decide +kernel
theorem dX8_meetings_31 : decode cX8_meetings 31 = .ok (.iload 4, 2) := by decide +kernel
theorem dX8_meetings_33 : decode cX8_meetings 33 = .ok (.invokevirtual 202, 3) := by decide +kernel
theorem dX8_meetings_36 : decode cX8_meetings 36 = .ok (.ifCond .ne 18, 3) := by decide +kernel
theorem dX8_meetings_39 : decode cX8_meetings 39 = .ok (.aload_n 0, 1) := by decide +kernel
theorem dX8_meetings_40 : decode cX8_meetings 40 = .ok (.iload_n 3, 1) := by decide +kernel
theorem dX8_meetings_41 : decode cX8_meetings 41 = .ok (.iload 4, 2) := by decide +kernel
theorem dX8_meetings_43 : decode cX8_meetings 43 = .ok (.iload_n 1, 1) := by decide +kernel
theorem dX8_meetings_44 : decode cX8_meetings 44 = .ok (.invokevirtual 218, 3) := by decide +kernel
theorem dX8_meetings_47 : decode cX8_meetings 47 = .ok (.ifCond .eq 7, 3) := by decide +kernel
theorem dX8_meetings_50 : decode cX8_meetings 50 = .ok (.iconst 1, 1) := by decide +kernel
theorem dX8_meetings_51 : decode cX8_meetings 51 = .ok (.goto 4, 3) := by decide +kernel
theorem dX8_meetings_54 : decode cX8_meetings 54 = .ok (.iconst 0, 1) := by decide +kernel
theorem dX8_meetings_55 : decode cX8_meetings 55 = .ok (.iadd, 1) := by decide +kernel
theorem dX8_meetings_56 : decode cX8_meetings 56 = .ok (.istore_n 2, 1) := by decide +kernel
theorem dX8_meetings_57 : decode cX8_meetings 57 = .ok (.iinc 4 1, 3) := by decide +kernel
theorem dX8_meetings_60 : decode cX8_meetings 60 = .ok (.goto (-45), 3) := by decide +kernel
theorem dX8_meetings_63 : decode cX8_meetings 63 = .ok (.iinc 3 1, 3) := by decide +kernel
theorem dX8_meetings_66 : decode cX8_meetings 66 = .ok (.goto (-62), 3) := by decide +kernel
theorem dX8_meetings_69 : decode cX8_meetings 69 = .ok (.iload_n 2, 1) := by decide +kernel
theorem dX8_meetings_70 : decode cX8_meetings 70 = .ok (.ireturn, 1) := by decide +kernel
set_option maxRecDepth 20000 in
theorem ggX8_many_X8_counting : GoodIn wsX8_many wsX8_counting := goodIn_r _ [8, 1, 9, 10, 55, 56, 57, 58, 59, 60, 61, 62, 63, 64, 65, 66, 67, 68, 69, 70, 71, 72, 73, 74, 75, 76, 77, 78, 79, 80, 81, 82, 83, 84, 85, 86, 87, 88, 89, 90] (by decide +kernel) (by decide +kernel)
set_option maxRecDepth 20000 in
theorem gX8_many_X8_counting : GoodIn wsX8_many (wsV RX8 153 RX8 yX8_counting wsX8_counting) := goodIn_app (goodIn_of _ (by decide +kernel)) ggX8_many_X8_counting
set_option maxRecDepth 20000 in
theorem ggX8_many_X8_manyOf : GoodIn wsX8_many wsX8_manyOf := goodIn_r _ [13] (by decide +kernel) (by decide +kernel)
set_option maxRecDepth 20000 in
theorem gX8_many_X8_manyOf : GoodIn wsX8_many (va_wsS RX8 177 yX8_manyOf wsX8_manyOf) := goodIn_app (goodIn_of _ (by decide +kernel)) ggX8_many_X8_manyOf
set_option maxRecDepth 20000 in
theorem ggX8_many_X8_inState : GoodIn wsX8_many wsX8_inState := goodIn_r _ [17, 2, 18, 19, 20, 7, 21, 22, 23, 24, 25, 26, 27, 28, 29, 30, 31, 32, 33, 34, 35, 36, 37, 38, 39, 40, 41, 42, 55, 56, 57, 58, 59, 60, 61, 62, 63, 64, 65, 66, 67, 68, 69, 70, 71, 72, 73, 74, 75, 76, 77, 78, 79, 80, 81, 82, 83, 84, 85, 86, 87, 88, 89, 90] (by decide +kernel) (by decide +kernel)
set_option maxRecDepth 20000 in
theorem gX8_many_X8_inState : GoodIn wsX8_many (wsV RX8 242 RX8 yX8_inState wsX8_inState) := goodIn_app (goodIn_of _ (by decide +kernel)) ggX8_many_X8_inState
set_option maxRecDepth 20000 in
theorem ggX8_many_X8_meetings : GoodIn wsX8_many wsX8_meetings := goodIn_r _ [46, 2, 22, 23, 24, 7, 25, 26, 27, 28, 29, 30, 31, 32, 33, 34, 35, 36, 37, 38, 39, 40, 41, 42, 47, 48, 49, 50, 51, 52, 53, 54, 55, 56, 57, 58, 59, 60, 61, 62, 63, 64, 65, 66, 67, 68, 69, 70, 71, 72, 73, 74, 75, 76, 77, 78, 79, 80, 81, 82, 83, 84, 85, 86, 87, 88, 89, 90] (by decide +kernel) (by decide +kernel)
set_option maxRecDepth 20000 in
theorem gX8_many_X8_meetings : GoodIn wsX8_many (wsV RX8 245 RX8 yX8_meetings wsX8_meetings) := goodIn_app (goodIn_of _ (by decide +kernel)) ggX8_many_X8_meetings
theorem dX8_many_0 : decode cX8_many 0 = .ok (.iload_n 1, 1) := by decide +kernel
theorem dX8_many_1 : decode cX8_many 1 = .ok (.tableswitch 107 0 8 #[51, 56, 64, 69, 75, 81, 88, 95, 101], 51) := by decide +kernel
theorem dX8_many_52 : decode cX8_many 52 = .ok (.aload_n 0, 1) := by decide +kernel
theorem dX8_many_53 : decode cX8_many 53 = .ok (.getfield 65, 3) := by decide +kernel
theorem dX8_many_56 : decode cX8_many 56 = .ok (.ireturn, 1) := by decide +kernel
theorem dX8_many_57 : decode cX8_many 57 = .ok (.aload_n 0, 1) := by decide +kernel
theorem dX8_many_58 : decode cX8_many 58 = .ok (.invokevirtual 153, 3) := by decide +kernel
theorem dX8_many_61 : decode cX8_many 61 = .ok (.invokestatic 177, 3) := by decide +kernel
theorem dX8_many_64 : decode cX8_many 64 = .ok (.ireturn, 1) := by decide +kernel
theorem dX8_many_65 : decode cX8_many 65 = .ok (.aload_n 0, 1) := by decide +kernel
theorem dX8_many_66 : decode cX8_many 66 = .ok (.getfield 183, 3) := by decide +kernel
theorem dX8_many_69 : decode cX8_many 69 = .ok (.ireturn, 1) := by decide +kernel
theorem dX8_many_70 : decode cX8_many 70 = .ok (.aload_n 0, 1) := by decide +kernel
theorem dX8_many_71 : decode cX8_many 71 = .ok (.iconst 1, 1) := by decide +kernel
theorem dX8_many_72 : decode cX8_many 72 = .ok (.invokevirtual 242, 3) := by decide +kernel
theorem dX8_many_75 : decode cX8_many 75 = .ok (.ireturn, 1) := by decide +kernel
theorem dX8_many_76 : decode cX8_many 76 = .ok (.aload_n 0, 1) := by decide +kernel
theorem dX8_many_77 : decode cX8_many 77 = .ok (.iconst 2, 1) := by decide +kernel
theorem dX8_many_78 : decode cX8_many 78 = .ok (.invokevirtual 242, 3) := by decide +kernel
theorem dX8_many_81 : decode cX8_many 81 = .ok (.ireturn, 1) := by decide +kernel
theorem dX8_many_82 : decode cX8_many 82 = .ok (.aload_n 0, 1) := by decide +kernel
theorem dX8_many_83 : decode cX8_many 83 = .ok (.getfield 23, 3) := by decide +kernel
theorem dX8_many_86 : decode cX8_many 86 = .ok (.iconst 0, 1) := by decide +kernel
theorem dX8_many_87 : decode cX8_many 87 = .ok (.iaload, 1) := by decide +kernel
theorem dX8_many_88 : decode cX8_many 88 = .ok (.ireturn, 1) := by decide +kernel
theorem dX8_many_89 : decode cX8_many 89 = .ok (.aload_n 0, 1) := by decide +kernel
theorem dX8_many_90 : decode cX8_many 90 = .ok (.getfield 23, 3) := by decide +kernel
theorem dX8_many_93 : decode cX8_many 93 = .ok (.iconst 1, 1) := by decide +kernel
theorem dX8_many_94 : decode cX8_many 94 = .ok (.iaload, 1) := by decide +kernel
theorem dX8_many_95 : decode cX8_many 95 = .ok (.ireturn, 1) := by decide +kernel
theorem dX8_many_96 : decode cX8_many 96 = .ok (.aload_n 0, 1) := by decide +kernel
theorem dX8_many_97 : decode cX8_many 97 = .ok (.iconst 0, 1) := by decide +kernel
theorem dX8_many_98 : decode cX8_many 98 = .ok (.invokevirtual 245, 3) := by decide +kernel
theorem dX8_many_101 : decode cX8_many 101 = .ok (.ireturn, 1) := by decide +kernel
theorem dX8_many_102 : decode cX8_many 102 = .ok (.aload_n 0, 1) := by decide +kernel
theorem dX8_many_103 : decode cX8_many 103 = .ok (.iconst 1, 1) := by decide +kernel
theorem dX8_many_104 : decode cX8_many 104 = .ok (.invokevirtual 245, 3) := by decide +kernel
theorem dX8_many_107 : decode cX8_many 107 = .ok (.ireturn, 1) := by decide +kernel
theorem dX8_many_108 : decode cX8_many 108 = .ok (.iconst (-1), 1) := by decide +kernel
theorem dX8_many_109 : decode cX8_many 109 = .ok (.ireturn, 1) := by decide +kernel
theorem dX8_copy_0 : decode cX8_copy 0 = .ok (.iconst 0, 1) := by decide +kernel
theorem dX8_copy_1 : decode cX8_copy 1 = .ok (.istore_n 2, 1) := by decide +kernel
theorem dX8_copy_2 : decode cX8_copy 2 = .ok (.iload_n 2, 1) := by decide +kernel
theorem dX8_copy_3 : decode cX8_copy 3 = .ok (.aload_n 0, 1) := by decide +kernel
theorem dX8_copy_4 : decode cX8_copy 4 = .ok (.arraylength, 1) := by decide +kernel
theorem dX8_copy_5 : decode cX8_copy 5 = .ok (.if_icmp .ge 15, 3) := by decide +kernel
theorem dX8_copy_8 : decode cX8_copy 8 = .ok (.aload_n 1, 1) := by decide +kernel
theorem dX8_copy_9 : decode cX8_copy 9 = .ok (.iload_n 2, 1) := by decide +kernel
theorem dX8_copy_10 : decode cX8_copy 10 = .ok (.aload_n 0, 1) := by decide +kernel
theorem dX8_copy_11 : decode cX8_copy 11 = .ok (.iload_n 2, 1) := by decide +kernel
theorem dX8_copy_12 : decode cX8_copy 12 = .ok (.iaload, 1) := by decide +kernel
theorem dX8_copy_13 : decode cX8_copy 13 = .ok (.iastore, 1) := by decide +kernel
theorem dX8_copy_14 : decode cX8_copy 14 = .ok (.iinc 2 1, 3) := by decide +kernel
theorem dX8_copy_17 : decode cX8_copy 17 = .ok (.goto (-15), 3) := by decide +kernel
theorem dX8_copy_20 : decode cX8_copy 20 = .ok (.return_, 1) := by decide +kernel
set_option maxRecDepth 20000 in
theorem ggX8_keep_X8_copy : GoodIn wsX8_keep wsX8_copy := goodIn_r _ [18] (by decide +kernel) (by decide +kernel)
set_option maxRecDepth 20000 in
theorem gX8_keep_X8_copy : GoodIn wsX8_keep (va_wsS RX8 252 yX8_copy wsX8_copy) := goodIn_app (goodIn_of _ (by decide +kernel)) ggX8_keep_X8_copy
theorem dX8_keep_0 : decode cX8_keep 0 = .ok (.aload_n 0, 1) := by decide +kernel
theorem dX8_keep_1 : decode cX8_keep 1 = .ok (.iconst 1, 1) := by decide +kernel
theorem dX8_keep_2 : decode cX8_keep 2 = .ok (.putfield 248, 3) := by decide +kernel
theorem dX8_keep_5 : decode cX8_keep 5 = .ok (.aload_n 0, 1) := by decide +kernel
theorem dX8_keep_6 : decode cX8_keep 6 = .ok (.getfield 36, 3) := by decide +kernel
theorem dX8_keep_9 : decode cX8_keep 9 = .ok (.iconst 0, 1) := by decide +kernel
theorem dX8_keep_10 : decode cX8_keep 10 = .ok (.aload_n 0, 1) := by decide +kernel
theorem dX8_keep_11 : decode cX8_keep 11 = .ok (.getfield 65, 3) := by decide +kernel
theorem dX8_keep_14 : decode cX8_keep 14 = .ok (.iastore, 1) := by decide +kernel
theorem dX8_keep_15 : decode cX8_keep 15 = .ok (.aload_n 0, 1) := by decide +kernel
theorem dX8_keep_16 : decode cX8_keep 16 = .ok (.getfield 36, 3) := by decide +kernel
theorem dX8_keep_19 : decode cX8_keep 19 = .ok (.iconst 1, 1) := by decide +kernel
theorem dX8_keep_20 : decode cX8_keep 20 = .ok (.aload_n 0, 1) := by decide +kernel
theorem dX8_keep_21 : decode cX8_keep 21 = .ok (.getfield 183, 3) := by decide +kernel
theorem dX8_keep_24 : decode cX8_keep 24 = .ok (.iastore, 1) := by decide +kernel
theorem dX8_keep_25 : decode cX8_keep 25 = .ok (.aload_n 0, 1) := by decide +kernel
theorem dX8_keep_26 : decode cX8_keep 26 = .ok (.getfield 36, 3) := by decide +kernel
theorem dX8_keep_29 : decode cX8_keep 29 = .ok (.iconst 2, 1) := by decide +kernel
theorem dX8_keep_30 : decode cX8_keep 30 = .ok (.aload_n 0, 1) := by decide +kernel
theorem dX8_keep_31 : decode cX8_keep 31 = .ok (.getfield 23, 3) := by decide +kernel
theorem dX8_keep_34 : decode cX8_keep 34 = .ok (.iconst 0, 1) := by decide +kernel
theorem dX8_keep_35 : decode cX8_keep 35 = .ok (.iaload, 1) := by decide +kernel
theorem dX8_keep_36 : decode cX8_keep 36 = .ok (.iastore, 1) := by decide +kernel
theorem dX8_keep_37 : decode cX8_keep 37 = .ok (.aload_n 0, 1) := by decide +kernel
theorem dX8_keep_38 : decode cX8_keep 38 = .ok (.getfield 36, 3) := by decide +kernel
theorem dX8_keep_41 : decode cX8_keep 41 = .ok (.iconst 3, 1) := by decide +kernel
theorem dX8_keep_42 : decode cX8_keep 42 = .ok (.aload_n 0, 1) := by decide +kernel
theorem dX8_keep_43 : decode cX8_keep 43 = .ok (.getfield 23, 3) := by decide +kernel
theorem dX8_keep_46 : decode cX8_keep 46 = .ok (.iconst 1, 1) := by decide +kernel
theorem dX8_keep_47 : decode cX8_keep 47 = .ok (.iaload, 1) := by decide +kernel
theorem dX8_keep_48 : decode cX8_keep 48 = .ok (.iastore, 1) := by decide +kernel
theorem dX8_keep_49 : decode cX8_keep 49 = .ok (.aload_n 0, 1) := by decide +kernel
theorem dX8_keep_50 : decode cX8_keep 50 = .ok (.getfield 7, 3) := by decide +kernel
theorem dX8_keep_53 : decode cX8_keep 53 = .ok (.aload_n 0, 1) := by decide +kernel
theorem dX8_keep_54 : decode cX8_keep 54 = .ok (.getfield 39, 3) := by decide +kernel
theorem dX8_keep_57 : decode cX8_keep 57 = .ok (.invokestatic 252, 3) := by decide +kernel
theorem dX8_keep_60 : decode cX8_keep 60 = .ok (.aload_n 0, 1) := by decide +kernel
theorem dX8_keep_61 : decode cX8_keep 61 = .ok (.getfield 20, 3) := by decide +kernel
theorem dX8_keep_64 : decode cX8_keep 64 = .ok (.aload_n 0, 1) := by decide +kernel
theorem dX8_keep_65 : decode cX8_keep 65 = .ok (.getfield 45, 3) := by decide +kernel
theorem dX8_keep_68 : decode cX8_keep 68 = .ok (.invokestatic 252, 3) := by decide +kernel
theorem dX8_keep_71 : decode cX8_keep 71 = .ok (.aload_n 0, 1) := by decide +kernel
theorem dX8_keep_72 : decode cX8_keep 72 = .ok (.getfield 26, 3) := by decide +kernel
theorem dX8_keep_75 : decode cX8_keep 75 = .ok (.aload_n 0, 1) := by decide +kernel
theorem dX8_keep_76 : decode cX8_keep 76 = .ok (.getfield 48, 3) := by decide +kernel
theorem dX8_keep_79 : decode cX8_keep 79 = .ok (.invokestatic 252, 3) := by decide +kernel
theorem dX8_keep_82 : decode cX8_keep 82 = .ok (.iconst 0, 1) := by decide +kernel
theorem dX8_keep_83 : decode cX8_keep 83 = .ok (.istore_n 1, 1) := by decide +kernel
theorem dX8_keep_84 : decode cX8_keep 84 = .ok (.iload_n 1, 1) := by decide +kernel
theorem dX8_keep_85 : decode cX8_keep 85 = .ok (.bipush 12, 2) := by decide +kernel
theorem dX8_keep_87 : decode cX8_keep 87 = .ok (.if_icmp .ge 44, 3) := by decide +kernel
theorem dX8_keep_90 : decode cX8_keep 90 = .ok (.aload_n 0, 1) := by decide +kernel
theorem dX8_keep_91 : decode cX8_keep 91 = .ok (.getfield 42, 3) := by decide +kernel
theorem dX8_keep_94 : decode cX8_keep 94 = .ok (.iload_n 1, 1) := by decide +kernel
theorem dX8_keep_95 : decode cX8_keep 95 = .ok (.aload_n 0, 1) := by decide +kernel
theorem dX8_keep_96 : decode cX8_keep 96 = .ok (.getfield 13, 3) := by decide +kernel
theorem dX8_keep_99 : decode cX8_keep 99 = .ok (.iload_n 1, 1) := by decide +kernel
theorem dX8_keep_100 : decode cX8_keep 100 = .ok (.baload, 1) := by decide +kernel
theorem dX8_keep_101 : decode cX8_keep 101 = .ok (.ifCond .eq 7, 3) := by decide +kernel
theorem dX8_keep_104 : decode cX8_keep 104 = .ok (.iconst 1, 1) := by decide +kernel
theorem dX8_keep_105 : decode cX8_keep 105 = .ok (.goto 4, 3) := by decide +kernel
theorem dX8_keep_108 : decode cX8_keep 108 = .ok (.iconst 0, 1) := by decide +kernel
theorem dX8_keep_109 : decode cX8_keep 109 = .ok (.aload_n 0, 1) := by decide +kernel
theorem dX8_keep_110 : decode cX8_keep 110 = .ok (.getfield 17, 3) := by decide +kernel
theorem dX8_keep_113 : decode cX8_keep 113 = .ok (.iload_n 1, 1) := by decide +kernel
theorem dX8_keep_114 : decode cX8_keep 114 = .ok (.baload, 1) := by decide +kernel
theorem dX8_keep_115 : decode cX8_keep 115 = .ok (.ifCond .eq 7, 3) := by decide +kernel
theorem dX8_keep_118 : decode cX8_keep 118 = .ok (.iconst 2, 1) := by decide +kernel
theorem dX8_keep_119 : decode cX8_keep 119 = .ok (.goto 4, 3) := by decide +kernel
theorem dX8_keep_122 : decode cX8_keep 122 = .ok (.iconst 0, 1) := by decide +kernel
theorem dX8_keep_123 : decode cX8_keep 123 = .ok (.iadd, 1) := by decide +kernel
theorem dX8_keep_124 : decode cX8_keep 124 = .ok (.iastore, 1) := by decide +kernel
theorem dX8_keep_125 : decode cX8_keep 125 = .ok (.iinc 1 1, 3) := by decide +kernel
theorem dX8_keep_128 : decode cX8_keep 128 = .ok (.goto (-44), 3) := by decide +kernel
theorem dX8_keep_131 : decode cX8_keep 131 = .ok (.iconst 1, 1) := by decide +kernel
theorem dX8_keep_132 : decode cX8_keep 132 = .ok (.ireturn, 1) := by decide +kernel
set_option maxRecDepth 20000 in
theorem ggX8_back_X8_copy : GoodIn wsX8_back wsX8_copy := goodIn_r _ [18] (by decide +kernel) (by decide +kernel)
set_option maxRecDepth 20000 in
theorem gX8_back_X8_copy : GoodIn wsX8_back (va_wsS RX8 252 yX8_copy wsX8_copy) := goodIn_app (goodIn_of _ (by decide +kernel)) ggX8_back_X8_copy
theorem dX8_back_0 : decode cX8_back 0 = .ok (.aload_n 0, 1) := by decide +kernel
theorem dX8_back_1 : decode cX8_back 1 = .ok (.getfield 248, 3) := by decide +kernel
theorem dX8_back_4 : decode cX8_back 4 = .ok (.ifCond .ne 6, 3) := by decide +kernel
theorem dX8_back_7 : decode cX8_back 7 = .ok (.bipush (-5), 2) := by decide +kernel
theorem dX8_back_9 : decode cX8_back 9 = .ok (.ireturn, 1) := by decide +kernel
theorem dX8_back_10 : decode cX8_back 10 = .ok (.aload_n 0, 1) := by decide +kernel
theorem dX8_back_11 : decode cX8_back 11 = .ok (.aload_n 0, 1) := by decide +kernel
theorem dX8_back_12 : decode cX8_back 12 = .ok (.getfield 36, 3) := by decide +kernel
theorem dX8_back_15 : decode cX8_back 15 = .ok (.iconst 0, 1) := by decide +kernel
theorem dX8_back_16 : decode cX8_back 16 = .ok (.iaload, 1) := by decide +kernel
theorem dX8_back_17 : decode cX8_back 17 = .ok (.putfield 65, 3) := by decide +kernel
theorem dX8_back_20 : decode cX8_back 20 = .ok (.aload_n 0, 1) := by decide +kernel
theorem dX8_back_21 : decode cX8_back 21 = .ok (.aload_n 0, 1) := by decide +kernel
theorem dX8_back_22 : decode cX8_back 22 = .ok (.getfield 36, 3) := by decide +kernel
theorem dX8_back_25 : decode cX8_back 25 = .ok (.iconst 1, 1) := by decide +kernel
theorem dX8_back_26 : decode cX8_back 26 = .ok (.iaload, 1) := by decide +kernel
theorem dX8_back_27 : decode cX8_back 27 = .ok (.putfield 183, 3) := by decide +kernel
theorem dX8_back_30 : decode cX8_back 30 = .ok (.aload_n 0, 1) := by decide +kernel
theorem dX8_back_31 : decode cX8_back 31 = .ok (.getfield 23, 3) := by decide +kernel
theorem dX8_back_34 : decode cX8_back 34 = .ok (.iconst 0, 1) := by decide +kernel
theorem dX8_back_35 : decode cX8_back 35 = .ok (.aload_n 0, 1) := by decide +kernel
theorem dX8_back_36 : decode cX8_back 36 = .ok (.getfield 36, 3) := by decide +kernel
theorem dX8_back_39 : decode cX8_back 39 = .ok (.iconst 2, 1) := by decide +kernel
theorem dX8_back_40 : decode cX8_back 40 = .ok (.iaload, 1) := by decide +kernel
theorem dX8_back_41 : decode cX8_back 41 = .ok (.iastore, 1) := by decide +kernel
theorem dX8_back_42 : decode cX8_back 42 = .ok (.aload_n 0, 1) := by decide +kernel
theorem dX8_back_43 : decode cX8_back 43 = .ok (.getfield 23, 3) := by decide +kernel
theorem dX8_back_46 : decode cX8_back 46 = .ok (.iconst 1, 1) := by decide +kernel
theorem dX8_back_47 : decode cX8_back 47 = .ok (.aload_n 0, 1) := by decide +kernel
theorem dX8_back_48 : decode cX8_back 48 = .ok (.getfield 36, 3) := by decide +kernel
theorem dX8_back_51 : decode cX8_back 51 = .ok (.iconst 3, 1) := by decide +kernel
theorem dX8_back_52 : decode cX8_back 52 = .ok (.iaload, 1) := by decide +kernel
theorem dX8_back_53 : decode cX8_back 53 = .ok (.iastore, 1) := by decide +kernel
theorem dX8_back_54 : decode cX8_back 54 = .ok (.aload_n 0, 1) := by decide +kernel
theorem dX8_back_55 : decode cX8_back 55 = .ok (.getfield 39, 3) := by decide +kernel
theorem dX8_back_58 : decode cX8_back 58 = .ok (.aload_n 0, 1) := by decide +kernel
theorem dX8_back_59 : decode cX8_back 59 = .ok (.getfield 7, 3) := by decide +kernel
theorem dX8_back_62 : decode cX8_back 62 = .ok (.invokestatic 252, 3) := by decide +kernel
theorem dX8_back_65 : decode cX8_back 65 = .ok (.aload_n 0, 1) := by decide +kernel
theorem dX8_back_66 : decode cX8_back 66 = .ok (.getfield 45, 3) := by decide +kernel
theorem dX8_back_69 : decode cX8_back 69 = .ok (.aload_n 0, 1) := by decide +kernel
theorem dX8_back_70 : decode cX8_back 70 = .ok (.getfield 20, 3) := by decide +kernel
theorem dX8_back_73 : decode cX8_back 73 = .ok (.invokestatic 252, 3) := by decide +kernel
theorem dX8_back_76 : decode cX8_back 76 = .ok (.aload_n 0, 1) := by decide +kernel
theorem dX8_back_77 : decode cX8_back 77 = .ok (.getfield 48, 3) := by decide +kernel
theorem dX8_back_80 : decode cX8_back 80 = .ok (.aload_n 0, 1) := by decide +kernel
theorem dX8_back_81 : decode cX8_back 81 = .ok (.getfield 26, 3) := by decide +kernel
theorem dX8_back_84 : decode cX8_back 84 = .ok (.invokestatic 252, 3) := by decide +kernel
theorem dX8_back_87 : decode cX8_back 87 = .ok (.iconst 0, 1) := by decide +kernel
theorem dX8_back_88 : decode cX8_back 88 = .ok (.istore_n 1, 1) := by decide +kernel
theorem dX8_back_89 : decode cX8_back 89 = .ok (.iload_n 1, 1) := by decide +kernel
theorem dX8_back_90 : decode cX8_back 90 = .ok (.bipush 12, 2) := by decide +kernel
theorem dX8_back_92 : decode cX8_back 92 = .ok (.if_icmp .ge 53, 3) := by decide +kernel
theorem dX8_back_95 : decode cX8_back 95 = .ok (.aload_n 0, 1) := by decide +kernel
theorem dX8_back_96 : decode cX8_back 96 = .ok (.getfield 13, 3) := by decide +kernel
theorem dX8_back_99 : decode cX8_back 99 = .ok (.iload_n 1, 1) := by decide +kernel
theorem dX8_back_100 : decode cX8_back 100 = .ok (.aload_n 0, 1) := by decide +kernel
theorem dX8_back_101 : decode cX8_back 101 = .ok (.getfield 42, 3) := by decide +kernel
theorem dX8_back_104 : decode cX8_back 104 = .ok (.iload_n 1, 1) := by decide +kernel
theorem dX8_back_105 : decode cX8_back 105 = .ok (.iaload, 1) := by decide +kernel
theorem dX8_back_106 : decode cX8_back 106 = .ok (.iconst 2, 1) := by decide +kernel
theorem dX8_back_107 : decode cX8_back 107 = .ok (.irem, 1) := by decide +kernel
theorem dX8_back_108 : decode cX8_back 108 = .ok (.iconst 1, 1) := by decide +kernel
theorem dX8_back_109 : decode cX8_back 109 = .ok (.if_icmp .ne 7, 3) := by decide +kernel
theorem dX8_back_112 : decode cX8_back 112 = .ok (.iconst 1, 1) := by decide +kernel
theorem dX8_back_113 : decode cX8_back 113 = .ok (.goto 4, 3) := by decide +kernel
theorem dX8_back_116 : decode cX8_back 116 = .ok (.iconst 0, 1) := by decide +kernel
theorem dX8_back_117 : decode cX8_back 117 = .ok (.bastore, 1) := by decide +kernel
theorem dX8_back_118 : decode cX8_back 118 = .ok (.aload_n 0, 1) := by decide +kernel
theorem dX8_back_119 : decode cX8_back 119 = .ok (.getfield 17, 3) := by decide +kernel
theorem dX8_back_122 : decode cX8_back 122 = .ok (.iload_n 1, 1) := by decide +kernel
theorem dX8_back_123 : decode cX8_back 123 = .ok (.aload_n 0, 1) := by decide +kernel
theorem dX8_back_124 : decode cX8_back 124 = .ok (.getfield 42, 3) := by decide +kernel
theorem dX8_back_127 : decode cX8_back 127 = .ok (.iload_n 1, 1) := by decide +kernel
theorem dX8_back_128 : decode cX8_back 128 = .ok (.iaload, 1) := by decide +kernel
theorem dX8_back_129 : decode cX8_back 129 = .ok (.iconst 1, 1) := by decide +kernel
theorem dX8_back_130 : decode cX8_back 130 = .ok (.if_icmp .le 7, 3) := by decide +kernel
theorem dX8_back_133 : decode cX8_back 133 = .ok (.iconst 1, 1) := by decide +kernel
theorem dX8_back_134 : decode cX8_back 134 = .ok (.goto 4, 3) := by decide +kernel
theorem dX8_back_137 : decode cX8_back 137 = .ok (.iconst 0, 1) := by decide +kernel
theorem dX8_back_138 : decode cX8_back 138 = .ok (.bastore, 1) := by decide +kernel
theorem dX8_back_139 : decode cX8_back 139 = .ok (.iinc 1 1, 3) := by decide +kernel
theorem dX8_back_142 : decode cX8_back 142 = .ok (.goto (-53), 3) := by decide +kernel
theorem dX8_back_145 : decode cX8_back 145 = .ok (.iconst 1, 1) := by decide +kernel
theorem dX8_back_146 : decode cX8_back 146 = .ok (.ireturn, 1) := by decide +kernel
theorem dJ6_bitCount_0f7a4_0 : decode cJ6_bitCount_0f7a4 0 = .ok (.iload_n 0, 1) := by decide +kernel
theorem dJ6_bitCount_0f7a4_1 : decode cJ6_bitCount_0f7a4 1 = .ok (.iload_n 0, 1) := by decide +kernel
theorem dJ6_bitCount_0f7a4_2 : decode cJ6_bitCount_0f7a4 2 = .ok (.iconst 1, 1) := by decide +kernel
theorem dJ6_bitCount_0f7a4_3 : decode cJ6_bitCount_0f7a4 3 = .ok (.iushr, 1) := by decide +kernel
theorem dJ6_bitCount_0f7a4_4 : decode cJ6_bitCount_0f7a4 4 = .ok (.ldc_w 265, 3) := by decide +kernel
theorem dJ6_bitCount_0f7a4_7 : decode cJ6_bitCount_0f7a4 7 = .ok (.iand, 1) := by decide +kernel
theorem dJ6_bitCount_0f7a4_8 : decode cJ6_bitCount_0f7a4 8 = .ok (.isub, 1) := by decide +kernel
theorem dJ6_bitCount_0f7a4_9 : decode cJ6_bitCount_0f7a4 9 = .ok (.istore_n 0, 1) := by decide +kernel
theorem dJ6_bitCount_0f7a4_10 : decode cJ6_bitCount_0f7a4 10 = .ok (.iload_n 0, 1) := by decide +kernel
theorem dJ6_bitCount_0f7a4_11 : decode cJ6_bitCount_0f7a4 11 = .ok (.ldc_w 266, 3) := by decide +kernel
theorem dJ6_bitCount_0f7a4_14 : decode cJ6_bitCount_0f7a4 14 = .ok (.iand, 1) := by decide +kernel
theorem dJ6_bitCount_0f7a4_15 : decode cJ6_bitCount_0f7a4 15 = .ok (.iload_n 0, 1) := by decide +kernel
theorem dJ6_bitCount_0f7a4_16 : decode cJ6_bitCount_0f7a4 16 = .ok (.iconst 2, 1) := by decide +kernel
theorem dJ6_bitCount_0f7a4_17 : decode cJ6_bitCount_0f7a4 17 = .ok (.iushr, 1) := by decide +kernel
theorem dJ6_bitCount_0f7a4_18 : decode cJ6_bitCount_0f7a4 18 = .ok (.ldc_w 266, 3) := by decide +kernel
theorem dJ6_bitCount_0f7a4_21 : decode cJ6_bitCount_0f7a4 21 = .ok (.iand, 1) := by decide +kernel
theorem dJ6_bitCount_0f7a4_22 : decode cJ6_bitCount_0f7a4 22 = .ok (.iadd, 1) := by decide +kernel
theorem dJ6_bitCount_0f7a4_23 : decode cJ6_bitCount_0f7a4 23 = .ok (.istore_n 0, 1) := by decide +kernel
theorem dJ6_bitCount_0f7a4_24 : decode cJ6_bitCount_0f7a4 24 = .ok (.iload_n 0, 1) := by decide +kernel
theorem dJ6_bitCount_0f7a4_25 : decode cJ6_bitCount_0f7a4 25 = .ok (.iload_n 0, 1) := by decide +kernel
theorem dJ6_bitCount_0f7a4_26 : decode cJ6_bitCount_0f7a4 26 = .ok (.iconst 4, 1) := by decide +kernel
theorem dJ6_bitCount_0f7a4_27 : decode cJ6_bitCount_0f7a4 27 = .ok (.iushr, 1) := by decide +kernel
theorem dJ6_bitCount_0f7a4_28 : decode cJ6_bitCount_0f7a4 28 = .ok (.iadd, 1) := by decide +kernel
theorem dJ6_bitCount_0f7a4_29 : decode cJ6_bitCount_0f7a4 29 = .ok (.ldc_w 267, 3) := by decide +kernel
theorem dJ6_bitCount_0f7a4_32 : decode cJ6_bitCount_0f7a4 32 = .ok (.iand, 1) := by decide +kernel
theorem dJ6_bitCount_0f7a4_33 : decode cJ6_bitCount_0f7a4 33 = .ok (.istore_n 0, 1) := by decide +kernel
theorem dJ6_bitCount_0f7a4_34 : decode cJ6_bitCount_0f7a4 34 = .ok (.iload_n 0, 1) := by decide +kernel
theorem dJ6_bitCount_0f7a4_35 : decode cJ6_bitCount_0f7a4 35 = .ok (.iload_n 0, 1) := by decide +kernel
theorem dJ6_bitCount_0f7a4_36 : decode cJ6_bitCount_0f7a4 36 = .ok (.bipush 8, 2) := by decide +kernel
theorem dJ6_bitCount_0f7a4_38 : decode cJ6_bitCount_0f7a4 38 = .ok (.iushr, 1) := by decide +kernel
theorem dJ6_bitCount_0f7a4_39 : decode cJ6_bitCount_0f7a4 39 = .ok (.iadd, 1) := by decide +kernel
theorem dJ6_bitCount_0f7a4_40 : decode cJ6_bitCount_0f7a4 40 = .ok (.istore_n 0, 1) := by decide +kernel
theorem dJ6_bitCount_0f7a4_41 : decode cJ6_bitCount_0f7a4 41 = .ok (.iload_n 0, 1) := by decide +kernel
theorem dJ6_bitCount_0f7a4_42 : decode cJ6_bitCount_0f7a4 42 = .ok (.iload_n 0, 1) := by decide +kernel
theorem dJ6_bitCount_0f7a4_43 : decode cJ6_bitCount_0f7a4 43 = .ok (.bipush 16, 2) := by decide +kernel
theorem dJ6_bitCount_0f7a4_45 : decode cJ6_bitCount_0f7a4 45 = .ok (.iushr, 1) := by decide +kernel
theorem dJ6_bitCount_0f7a4_46 : decode cJ6_bitCount_0f7a4 46 = .ok (.iadd, 1) := by decide +kernel
theorem dJ6_bitCount_0f7a4_47 : decode cJ6_bitCount_0f7a4 47 = .ok (.istore_n 0, 1) := by decide +kernel
theorem dJ6_bitCount_0f7a4_48 : decode cJ6_bitCount_0f7a4 48 = .ok (.iload_n 0, 1) := by decide +kernel
theorem dJ6_bitCount_0f7a4_49 : decode cJ6_bitCount_0f7a4 49 = .ok (.bipush 63, 2) := by decide +kernel
theorem dJ6_bitCount_0f7a4_51 : decode cJ6_bitCount_0f7a4 51 = .ok (.iand, 1) := by decide +kernel
theorem dJ6_bitCount_0f7a4_52 : decode cJ6_bitCount_0f7a4 52 = .ok (.ireturn, 1) := by decide +kernel
theorem dJ6_signum_0f7a4_0 : decode cJ6_signum_0f7a4 0 = .ok (.iload_n 0, 1) := by decide +kernel
theorem dJ6_signum_0f7a4_1 : decode cJ6_signum_0f7a4 1 = .ok (.bipush 31, 2) := by decide +kernel
theorem dJ6_signum_0f7a4_3 : decode cJ6_signum_0f7a4 3 = .ok (.ishr, 1) := by decide +kernel
theorem dJ6_signum_0f7a4_4 : decode cJ6_signum_0f7a4 4 = .ok (.iload_n 0, 1) := by decide +kernel
theorem dJ6_signum_0f7a4_5 : decode cJ6_signum_0f7a4 5 = .ok (.ineg, 1) := by decide +kernel
theorem dJ6_signum_0f7a4_6 : decode cJ6_signum_0f7a4 6 = .ok (.bipush 31, 2) := by decide +kernel
theorem dJ6_signum_0f7a4_8 : decode cJ6_signum_0f7a4 8 = .ok (.iushr, 1) := by decide +kernel
theorem dJ6_signum_0f7a4_9 : decode cJ6_signum_0f7a4 9 = .ok (.ior, 1) := by decide +kernel
theorem dJ6_signum_0f7a4_10 : decode cJ6_signum_0f7a4 10 = .ok (.ireturn, 1) := by decide +kernel
theorem dJ9_floorDiv_f86c9_0 : decode cJ9_floorDiv_f86c9 0 = .ok (.lload_n 0, 1) := by decide +kernel
theorem dJ9_floorDiv_f86c9_1 : decode cJ9_floorDiv_f86c9 1 = .ok (.lload_n 2, 1) := by decide +kernel
theorem dJ9_floorDiv_f86c9_2 : decode cJ9_floorDiv_f86c9 2 = .ok (.ldiv, 1) := by decide +kernel
theorem dJ9_floorDiv_f86c9_3 : decode cJ9_floorDiv_f86c9 3 = .ok (.lstore 4, 2) := by decide +kernel
theorem dJ9_floorDiv_f86c9_5 : decode cJ9_floorDiv_f86c9 5 = .ok (.lload_n 0, 1) := by decide +kernel
theorem dJ9_floorDiv_f86c9_6 : decode cJ9_floorDiv_f86c9 6 = .ok (.lload_n 2, 1) := by decide +kernel
theorem dJ9_floorDiv_f86c9_7 : decode cJ9_floorDiv_f86c9 7 = .ok (.lxor, 1) := by decide +kernel
theorem dJ9_floorDiv_f86c9_8 : decode cJ9_floorDiv_f86c9 8 = .ok (.lconst 0, 1) := by decide +kernel
theorem dJ9_floorDiv_f86c9_9 : decode cJ9_floorDiv_f86c9 9 = .ok (.lcmp, 1) := by decide +kernel
theorem dJ9_floorDiv_f86c9_10 : decode cJ9_floorDiv_f86c9 10 = .ok (.ifCond .ge 17, 3) := by decide +kernel
theorem dJ9_floorDiv_f86c9_13 : decode cJ9_floorDiv_f86c9 13 = .ok (.lload 4, 2) := by decide +kernel
theorem dJ9_floorDiv_f86c9_15 : decode cJ9_floorDiv_f86c9 15 = .ok (.lload_n 2, 1) := by decide +kernel
theorem dJ9_floorDiv_f86c9_16 : decode cJ9_floorDiv_f86c9 16 = .ok (.lmul, 1) := by decide +kernel
theorem dJ9_floorDiv_f86c9_17 : decode cJ9_floorDiv_f86c9 17 = .ok (.lload_n 0, 1) := by decide +kernel
theorem dJ9_floorDiv_f86c9_18 : decode cJ9_floorDiv_f86c9 18 = .ok (.lcmp, 1) := by decide +kernel
theorem dJ9_floorDiv_f86c9_19 : decode cJ9_floorDiv_f86c9 19 = .ok (.ifCond .eq 8, 3) := by decide +kernel
theorem dJ9_floorDiv_f86c9_22 : decode cJ9_floorDiv_f86c9 22 = .ok (.lload 4, 2) := by decide +kernel
theorem dJ9_floorDiv_f86c9_24 : decode cJ9_floorDiv_f86c9 24 = .ok (.lconst 1, 1) := by decide +kernel
theorem dJ9_floorDiv_f86c9_25 : decode cJ9_floorDiv_f86c9 25 = .ok (.lsub, 1) := by decide +kernel
theorem dJ9_floorDiv_f86c9_26 : decode cJ9_floorDiv_f86c9 26 = .ok (.lreturn, 1) := by decide +kernel
theorem dJ9_floorDiv_f86c9_27 : decode cJ9_floorDiv_f86c9 27 = .ok (.lload 4, 2) := by decide +kernel
theorem dJ9_floorDiv_f86c9_29 : decode cJ9_floorDiv_f86c9 29 = .ok (.lreturn, 1) := by decide +kernel
theorem dJ9_abs_0f7a4_0 : decode cJ9_abs_0f7a4 0 = .ok (.iload_n 0, 1) := by decide +kernel
theorem dJ9_abs_0f7a4_1 : decode cJ9_abs_0f7a4 1 = .ok (.ifCond .ge 8, 3) := by decide +kernel
theorem dJ9_abs_0f7a4_4 : decode cJ9_abs_0f7a4 4 = .ok (.iload_n 0, 1) := by decide +kernel
theorem dJ9_abs_0f7a4_5 : decode cJ9_abs_0f7a4 5 = .ok (.ineg, 1) := by decide +kernel
theorem dJ9_abs_0f7a4_6 : decode cJ9_abs_0f7a4 6 = .ok (.goto 4, 3) := by decide +kernel
theorem dJ9_abs_0f7a4_9 : decode cJ9_abs_0f7a4 9 = .ok (.iload_n 0, 1) := by decide +kernel
theorem dJ9_abs_0f7a4_10 : decode cJ9_abs_0f7a4 10 = .ok (.ireturn, 1) := by decide +kernel
theorem dJ9_abs_067f4_0 : decode cJ9_abs_067f4 0 = .ok (.lload_n 0, 1) := by decide +kernel
theorem dJ9_abs_067f4_1 : decode cJ9_abs_067f4 1 = .ok (.lconst 0, 1) := by decide +kernel
theorem dJ9_abs_067f4_2 : decode cJ9_abs_067f4 2 = .ok (.lcmp, 1) := by decide +kernel
theorem dJ9_abs_067f4_3 : decode cJ9_abs_067f4 3 = .ok (.ifCond .ge 8, 3) := by decide +kernel
theorem dJ9_abs_067f4_6 : decode cJ9_abs_067f4 6 = .ok (.lload_n 0, 1) := by decide +kernel
theorem dJ9_abs_067f4_7 : decode cJ9_abs_067f4 7 = .ok (.lneg, 1) := by decide +kernel
theorem dJ9_abs_067f4_8 : decode cJ9_abs_067f4 8 = .ok (.goto 4, 3) := by decide +kernel
theorem dJ9_abs_067f4_11 : decode cJ9_abs_067f4 11 = .ok (.lload_n 0, 1) := by decide +kernel
theorem dJ9_abs_067f4_12 : decode cJ9_abs_067f4 12 = .ok (.lreturn, 1) := by decide +kernel
theorem dJ9_min_7cf53_0 : decode cJ9_min_7cf53 0 = .ok (.iload_n 0, 1) := by decide +kernel
theorem dJ9_min_7cf53_1 : decode cJ9_min_7cf53 1 = .ok (.iload_n 1, 1) := by decide +kernel
theorem dJ9_min_7cf53_2 : decode cJ9_min_7cf53 2 = .ok (.if_icmp .gt 7, 3) := by decide +kernel
theorem dJ9_min_7cf53_5 : decode cJ9_min_7cf53 5 = .ok (.iload_n 0, 1) := by decide +kernel
theorem dJ9_min_7cf53_6 : decode cJ9_min_7cf53 6 = .ok (.goto 4, 3) := by decide +kernel
theorem dJ9_min_7cf53_9 : decode cJ9_min_7cf53 9 = .ok (.iload_n 1, 1) := by decide +kernel
theorem dJ9_min_7cf53_10 : decode cJ9_min_7cf53 10 = .ok (.ireturn, 1) := by decide +kernel
set_option maxRecDepth 20000 in
theorem ggL_law_X7_init : GoodIn wsL_law wsX7_init := goodIn_r _ [8, 9, 10, 11, 12, 13, 14, 15, 16, 17, 18, 19, 20, 21, 22, 23, 24, 25, 26, 27, 28, 29, 30, 31, 32, 33, 34, 35, 36, 37, 38, 39, 40, 41, 42, 43, 44, 45, 46, 47, 48, 49, 50, 51, 52, 53, 54, 55, 56, 57, 58, 59, 60, 61, 62, 63, 64, 65, 66, 67, 68, 69, 70, 71, 72, 73, 74, 75, 76, 77, 78, 79, 80, 81, 82, 83, 84, 85, 86, 87, 88, 89, 90, 91, 92, 93, 94, 95, 96, 97, 98, 809, 810, 811, 812, 766, 767, 768, 769, 770, 771, 772, 813, 814, 815, 816, 817, 818, 819, 820, 821, 822, 823, 824, 825, 826, 827, 828, 829, 830, 831, 832, 833, 834, 835, 836, 837, 838, 839, 840, 841] (by decide +kernel) (by decide +kernel)
set_option maxRecDepth 20000 in
theorem gL_law_X7_init : GoodIn wsL_law (wsX7_init) := ggL_law_X7_init
set_option maxRecDepth 20000 in
theorem ggL_law_X8_init : GoodIn wsL_law wsX8_init := goodIn_r _ [101, 102, 10, 11, 49, 103, 104, 105, 106, 107, 108, 109, 110, 111, 112, 113, 114, 115, 116, 75, 117, 118, 119, 773, 774, 775, 776, 777, 778, 779, 780, 781, 782, 783, 784, 785, 786, 787, 788, 789, 790, 791, 792, 793, 794, 795, 796, 797, 798, 799, 800, 801, 802, 803, 804, 805, 806, 807, 808] (by decide +kernel) (by decide +kernel)
set_option maxRecDepth 20000 in
theorem gL_law_X8_init : GoodIn wsL_law (wsX8_init) := ggL_law_X8_init
set_option maxRecDepth 20000 in
theorem ggL_law_X7_point : GoodIn wsL_law wsX7_point := goodIn_r _ [123, 15, 124, 125, 2, 126, 127, 33, 128, 129, 47, 51, 52, 130, 131, 132, 133, 50, 134, 135, 766, 767, 768, 769, 770, 771, 772, 809, 810, 811, 812, 827, 828, 829, 830] (by decide +kernel) (by decide +kernel)
set_option maxRecDepth 20000 in
theorem gL_law_X7_point : GoodIn wsL_law (wsV RL 13 RX7 yX7_point wsX7_point) := goodIn_app (goodIn_of _ (by decide +kernel)) ggL_law_X7_point
set_option maxRecDepth 20000 in
theorem ggL_law_X8_point : GoodIn wsL_law wsX8_point := goodIn_r _ [139, 140, 103, 105, 106, 141, 142, 5, 143, 144, 145, 146, 773, 774, 775, 776, 777, 778, 779, 780, 781, 782, 783, 784, 785, 786, 787, 788, 789, 790, 791, 792, 793, 794, 795, 796, 797, 798, 799, 800, 801, 802, 803, 804, 805, 806, 807, 808] (by decide +kernel) (by decide +kernel)
set_option maxRecDepth 20000 in
theorem gL_law_X8_point : GoodIn wsL_law (wsV RL 17 RX8 yX8_point wsX8_point) := goodIn_app (goodIn_of _ (by decide +kernel)) ggL_law_X8_point
set_option maxRecDepth 20000 in
theorem ggL_law_X7_move : GoodIn wsL_law wsX7_move := goodIn_r _ [150, 15, 151, 33, 152, 153, 47, 154, 155, 2, 156, 124, 125, 126, 131, 132, 133, 50, 766, 767, 768, 769, 770, 771, 772, 809, 810, 811, 812, 827, 828, 829, 830] (by decide +kernel) (by decide +kernel)
set_option maxRecDepth 20000 in
theorem gL_law_X7_move : GoodIn wsL_law (wsV RL 18 RX7 yX7_move wsX7_move) := goodIn_app (goodIn_of _ (by decide +kernel)) ggL_law_X7_move
set_option maxRecDepth 20000 in
theorem ggL_law_X8_move : GoodIn wsL_law wsX8_move := goodIn_r _ [160, 103, 161, 162, 163, 5, 164, 140, 144, 145, 146, 165, 166, 167, 141, 142, 143, 773, 774, 775, 776, 777, 778, 779, 780, 781, 782, 783, 784, 785, 786, 787, 788, 789, 790, 791, 792, 793, 794, 795, 796, 797, 798, 799, 800, 801, 802, 803, 804, 805, 806, 807, 808] (by decide +kernel) (by decide +kernel)
set_option maxRecDepth 20000 in
theorem gL_law_X8_move : GoodIn wsL_law (wsV RL 21 RX8 yX8_move wsX8_move) := goodIn_app (goodIn_of _ (by decide +kernel)) ggL_law_X8_move
set_option maxRecDepth 20000 in
theorem ggL_law_X7_sure : GoodIn wsL_law wsX7_sure := goodIn_r _ [171, 15, 151, 33, 152, 153, 47, 172, 134, 2, 135, 766, 767, 768, 769, 770, 771, 772, 809, 810, 811, 812, 827, 828, 829, 830] (by decide +kernel) (by decide +kernel)
set_option maxRecDepth 20000 in
theorem gL_law_X7_sure : GoodIn wsL_law (wsV RL 22 RX7 yX7_sure wsX7_sure) := goodIn_app (goodIn_of _ (by decide +kernel)) ggL_law_X7_sure
set_option maxRecDepth 20000 in
theorem ggL_law_X8_sure : GoodIn wsL_law wsX8_sure := goodIn_r _ [176, 105, 161, 162, 163, 5, 164, 140, 144, 145, 146, 773, 774, 775, 776, 777, 778, 779, 780, 781, 782, 783, 784, 785, 786, 787, 788, 789, 790, 791, 792, 793, 794, 795, 796, 797, 798, 799, 800, 801, 802, 803, 804, 805, 806, 807, 808] (by decide +kernel) (by decide +kernel)
set_option maxRecDepth 20000 in
theorem gL_law_X8_sure : GoodIn wsL_law (wsV RL 26 RX8 yX8_sure wsX8_sure) := goodIn_app (goodIn_of _ (by decide +kernel)) ggL_law_X8_sure
set_option maxRecDepth 20000 in
theorem ggL_law_X7_put : GoodIn wsL_law wsX7_put := goodIn_r _ [180, 15, 151, 33, 152, 153, 47, 172, 134, 2, 135, 766, 767, 768, 769, 770, 771, 772, 809, 810, 811, 812, 827, 828, 829, 830] (by decide +kernel) (by decide +kernel)
set_option maxRecDepth 20000 in
theorem gL_law_X7_put : GoodIn wsL_law (wsV RL 27 RX7 yX7_put wsX7_put) := goodIn_app (goodIn_of _ (by decide +kernel)) ggL_law_X7_put
set_option maxRecDepth 20000 in
theorem ggL_law_X8_put : GoodIn wsL_law wsX8_put := goodIn_r _ [184, 106, 161, 162, 163, 5, 164, 140, 144, 145, 146, 773, 774, 775, 776, 777, 778, 779, 780, 781, 782, 783, 784, 785, 786, 787, 788, 789, 790, 791, 792, 793, 794, 795, 796, 797, 798, 799, 800, 801, 802, 803, 804, 805, 806, 807, 808] (by decide +kernel) (by decide +kernel)
set_option maxRecDepth 20000 in
theorem gL_law_X8_put : GoodIn wsL_law (wsV RL 30 RX8 yX8_put wsX8_put) := goodIn_app (goodIn_of _ (by decide +kernel)) ggL_law_X8_put
set_option maxRecDepth 20000 in
theorem ggL_law_X7_of : GoodIn wsL_law wsX7_of := goodIn_r _ [188, 15, 151, 33, 152, 153, 47, 766, 767, 768, 769, 770, 771, 772, 809, 810, 811, 812, 827, 828, 829, 830] (by decide +kernel) (by decide +kernel)
set_option maxRecDepth 20000 in
theorem gL_law_X7_of : GoodIn wsL_law (wsV RL 31 RX7 yX7_of wsX7_of) := goodIn_app (goodIn_of _ (by decide +kernel)) ggL_law_X7_of
set_option maxRecDepth 20000 in
theorem ggL_law_X8_of : GoodIn wsL_law wsX8_of := goodIn_r _ [192, 103, 105, 106, 161, 162, 163, 5, 164, 140, 144, 145, 146, 773, 774, 775, 776, 777, 778, 779, 780, 781, 782, 783, 784, 785, 786, 787, 788, 789, 790, 791, 792, 793, 794, 795, 796, 797, 798, 799, 800, 801, 802, 803, 804, 805, 806, 807, 808] (by decide +kernel) (by decide +kernel)
set_option maxRecDepth 20000 in
theorem gL_law_X8_of : GoodIn wsL_law (wsV RL 35 RX8 yX8_of wsX8_of) := goodIn_app (goodIn_of _ (by decide +kernel)) ggL_law_X8_of
set_option maxRecDepth 20000 in
theorem ggL_law_X7_bend : GoodIn wsL_law wsX7_bend := goodIn_r _ [196, 197, 20, 198, 199, 2, 200, 201, 202, 203, 204, 15, 205, 33, 206, 207, 51, 52, 208, 19, 209, 210, 77, 78, 79, 76, 73, 74, 211, 212, 213, 214, 215, 216, 217, 218, 219, 220, 221, 80, 222, 223, 224, 225, 226, 72, 227, 228, 84, 85, 86, 87, 229, 230, 231, 232, 233, 234, 235, 236, 237, 238, 239, 240, 241, 242, 243, 244, 245, 246, 247, 248, 249, 250, 251, 252, 253, 766, 767, 768, 769, 770, 771, 772, 813, 814, 815, 816, 817, 818, 819, 838, 839, 840, 841, 809, 810, 811, 812, 827, 828, 829, 830] (by decide +kernel) (by decide +kernel)
set_option maxRecDepth 20000 in
theorem gL_law_X7_bend : GoodIn wsL_law (wsV RL 36 RX7 yX7_bend wsX7_bend) := goodIn_app (goodIn_of _ (by decide +kernel)) ggL_law_X7_bend
set_option maxRecDepth 20000 in
theorem ggL_law_X8_bend : GoodIn wsL_law wsX8_bend := goodIn_r _ [257, 258, 259, 260, 261, 262, 263, 264, 265, 266, 267, 268, 5, 269, 144, 145, 146, 270, 271, 272, 273, 140, 105, 106, 274, 275, 276, 277, 278, 279, 280, 281, 282, 283, 284, 285, 286, 287, 288, 289, 290, 291, 292, 103, 293, 294, 295, 296, 297, 298, 299, 300, 301, 302, 303, 304, 305, 306, 307, 308, 309, 310, 311, 312, 773, 774, 775, 776, 777, 778, 779, 780, 781, 782, 783, 784, 785, 786, 787, 788, 789, 790, 791, 792, 793, 794, 795, 796, 797, 798, 799, 800, 801, 802, 803, 804, 805, 806, 807, 808] (by decide +kernel) (by decide +kernel)
set_option maxRecDepth 20000 in
theorem gL_law_X8_bend : GoodIn wsL_law (wsV RL 40 RX8 yX8_bend wsX8_bend) := goodIn_app (goodIn_of _ (by decide +kernel)) ggL_law_X8_bend
set_option maxRecDepth 20000 in
theorem ggL_law_X7_carry : GoodIn wsL_law wsX7_carry := goodIn_r _ [316, 197, 20, 198, 199, 2, 200, 124, 125, 126, 317, 318, 319, 201, 202, 203, 204, 15, 205, 33, 206, 207, 51, 52, 208, 19, 209, 210, 77, 78, 79, 76, 73, 74, 211, 212, 213, 214, 215, 216, 217, 218, 219, 220, 221, 80, 222, 223, 224, 225, 226, 72, 227, 228, 84, 85, 86, 87, 229, 230, 231, 232, 233, 234, 235, 236, 237, 238, 239, 240, 320, 321, 322, 323, 324, 325, 241, 242, 243, 244, 245, 246, 247, 248, 249, 250, 766, 767, 768, 769, 770, 771, 772, 838, 839, 840, 841, 809, 810, 811, 812, 827, 828, 829, 830, 813, 814, 815, 816, 817, 818, 819] (by decide +kernel) (by decide +kernel)
set_option maxRecDepth 20000 in
theorem gL_law_X7_carry : GoodIn wsL_law (wsV RL 41 RX7 yX7_carry wsX7_carry) := goodIn_app (goodIn_of _ (by decide +kernel)) ggL_law_X7_carry
set_option maxRecDepth 20000 in
theorem ggL_law_X8_carry : GoodIn wsL_law wsX8_carry := goodIn_r _ [329, 258, 282, 283, 259, 260, 284, 285, 261, 262, 267, 268, 5, 269, 144, 145, 146, 141, 142, 143, 270, 271, 272, 273, 140, 105, 106, 274, 275, 276, 277, 278, 279, 280, 281, 263, 264, 265, 266, 286, 287, 288, 289, 290, 291, 292, 103, 293, 294, 295, 296, 297, 298, 299, 300, 301, 302, 303, 304, 305, 306, 307, 308, 309, 310, 311, 312, 773, 774, 775, 776, 777, 778, 779, 780, 781, 782, 783, 784, 785, 786, 787, 788, 789, 790, 791, 792, 793, 794, 795, 796, 797, 798, 799, 800, 801, 802, 803, 804, 805, 806, 807, 808] (by decide +kernel) (by decide +kernel)
set_option maxRecDepth 20000 in
theorem gL_law_X8_carry : GoodIn wsL_law (wsV RL 45 RX8 yX8_carry wsX8_carry) := goodIn_app (goodIn_of _ (by decide +kernel)) ggL_law_X8_carry
set_option maxRecDepth 20000 in
theorem ggL_law_X7_off : GoodIn wsL_law wsX7_off := goodIn_r _ [333, 15, 197, 20, 151, 33, 152, 153, 47, 198, 199, 2, 200, 317, 318, 319, 201, 202, 203, 204, 205, 206, 207, 51, 52, 208, 19, 209, 210, 77, 78, 79, 76, 73, 74, 211, 212, 213, 214, 215, 216, 217, 218, 219, 220, 221, 80, 222, 223, 224, 225, 226, 72, 227, 228, 84, 85, 86, 87, 229, 230, 231, 232, 233, 234, 235, 236, 237, 238, 239, 240, 334, 335, 336, 337, 320, 321, 322, 323, 324, 325, 241, 242, 243, 244, 245, 246, 247, 248, 249, 250, 766, 767, 768, 769, 770, 771, 772, 809, 810, 811, 812, 838, 839, 840, 841, 827, 828, 829, 830, 813, 814, 815, 816, 817, 818, 819] (by decide +kernel) (by decide +kernel)
set_option maxRecDepth 20000 in
theorem gL_law_X7_off : GoodIn wsL_law (wsV RL 46 RX7 yX7_off wsX7_off) := goodIn_app (goodIn_of _ (by decide +kernel)) ggL_law_X7_off
set_option maxRecDepth 20000 in
theorem ggL_law_X8_off : GoodIn wsL_law wsX8_off := goodIn_r _ [341, 258, 262, 260, 161, 162, 163, 5, 164, 140, 144, 145, 146, 267, 268, 269, 270, 271, 272, 273, 105, 106, 274, 275, 276, 277, 278, 279, 280, 281, 282, 283, 259, 284, 285, 261, 263, 264, 265, 266, 286, 287, 288, 289, 290, 291, 292, 103, 293, 294, 295, 296, 297, 298, 299, 300, 301, 302, 303, 304, 305, 306, 342, 343, 344, 345, 307, 308, 309, 310, 311, 312, 773, 774, 775, 776, 777, 778, 779, 780, 781, 782, 783, 784, 785, 786, 787, 788, 789, 790, 791, 792, 793, 794, 795, 796, 797, 798, 799, 800, 801, 802, 803, 804, 805, 806, 807, 808] (by decide +kernel) (by decide +kernel)
set_option maxRecDepth 20000 in
theorem gL_law_X8_off : GoodIn wsL_law (wsV RL 50 RX8 yX8_off wsX8_off) := goodIn_app (goodIn_of _ (by decide +kernel)) ggL_law_X8_off
set_option maxRecDepth 20000 in
theorem ggL_law_X7_miss : GoodIn wsL_law wsX7_miss := goodIn_r _ [349, 197, 20, 198, 199, 2, 200, 201, 202, 203, 204, 15, 205, 33, 206, 207, 51, 52, 208, 19, 209, 210, 77, 78, 79, 76, 73, 74, 211, 212, 213, 214, 215, 216, 217, 218, 219, 220, 221, 80, 222, 223, 224, 225, 226, 72, 227, 228, 84, 85, 86, 87, 229, 230, 231, 232, 233, 234, 235, 236, 237, 238, 239, 240, 350, 351, 352, 353, 354, 355, 356, 357, 358, 359, 360, 361, 320, 321, 322, 241, 242, 243, 244, 245, 246, 247, 248, 249, 250, 766, 767, 768, 769, 770, 771, 772, 838, 839, 840, 841, 809, 810, 811, 812, 827, 828, 829, 830, 813, 814, 815, 816, 817, 818, 819] (by decide +kernel) (by decide +kernel)
set_option maxRecDepth 20000 in
theorem gL_law_X7_miss : GoodIn wsL_law (wsV RL 51 RX7 yX7_miss wsX7_miss) := goodIn_app (goodIn_of _ (by decide +kernel)) ggL_law_X7_miss
set_option maxRecDepth 20000 in
theorem ggL_law_X8_miss : GoodIn wsL_law wsX8_miss := goodIn_r _ [365, 258, 287, 288, 305, 306, 267, 268, 5, 269, 144, 145, 146, 270, 271, 272, 273, 140, 105, 106, 274, 275, 276, 277, 278, 279, 280, 281, 282, 283, 259, 260, 284, 285, 261, 262, 263, 264, 265, 266, 286, 289, 290, 291, 292, 103, 293, 294, 295, 296, 297, 298, 299, 300, 301, 302, 303, 304, 307, 308, 309, 310, 311, 312, 773, 774, 775, 776, 777, 778, 779, 780, 781, 782, 783, 784, 785, 786, 787, 788, 789, 790, 791, 792, 793, 794, 795, 796, 797, 798, 799, 800, 801, 802, 803, 804, 805, 806, 807, 808] (by decide +kernel) (by decide +kernel)
set_option maxRecDepth 20000 in
theorem gL_law_X8_miss : GoodIn wsL_law (wsV RL 54 RX8 yX8_miss wsX8_miss) := goodIn_app (goodIn_of _ (by decide +kernel)) ggL_law_X8_miss
set_option maxRecDepth 20000 in
theorem ggL_law_X7_beyond : GoodIn wsL_law wsX7_beyond := goodIn_r _ [369, 20, 26, 198, 199, 2, 200, 201, 202, 203, 204, 15, 205, 33, 206, 207, 51, 52, 208, 19, 209, 210, 77, 78, 79, 76, 73, 74, 211, 212, 213, 214, 215, 216, 217, 218, 219, 220, 221, 80, 222, 223, 224, 225, 226, 72, 227, 228, 84, 85, 86, 87, 229, 230, 231, 232, 233, 234, 235, 236, 237, 238, 239, 240, 370, 371, 372, 373, 374, 375, 376, 377, 245, 246, 247, 378, 334, 335, 336, 337, 320, 321, 322, 323, 324, 325, 766, 767, 768, 769, 770, 771, 772, 809, 810, 811, 812, 827, 828, 829, 830, 813, 814, 815, 816, 817, 818, 819, 838, 839, 840, 841] (by decide +kernel) (by decide +kernel)
set_option maxRecDepth 20000 in
theorem gL_law_X7_beyond : GoodIn wsL_law (wsV RL 55 RX7 yX7_beyond wsX7_beyond) := goodIn_app (goodIn_of _ (by decide +kernel)) ggL_law_X7_beyond
set_option maxRecDepth 20000 in
theorem ggL_law_X8_beyond : GoodIn wsL_law wsX8_beyond := goodIn_r _ [382, 267, 268, 5, 269, 144, 145, 146, 270, 271, 272, 273, 140, 105, 106, 274, 275, 276, 277, 278, 279, 280, 281, 282, 283, 259, 260, 284, 285, 261, 262, 263, 264, 265, 266, 286, 287, 288, 289, 290, 291, 292, 103, 293, 294, 295, 296, 297, 298, 299, 300, 301, 302, 303, 304, 305, 306, 383, 384, 385, 386, 387, 388, 389, 390, 110, 342, 343, 344, 345, 773, 774, 775, 776, 777, 778, 779, 780, 781, 782, 783, 784, 785, 786, 787, 788, 789, 790, 791, 792, 793, 794, 795, 796, 797, 798, 799, 800, 801, 802, 803, 804, 805, 806, 807, 808] (by decide +kernel) (by decide +kernel)
set_option maxRecDepth 20000 in
theorem gL_law_X8_beyond : GoodIn wsL_law (wsV RL 59 RX8 yX8_beyond wsX8_beyond) := goodIn_app (goodIn_of _ (by decide +kernel)) ggL_law_X8_beyond
set_option maxRecDepth 20000 in
theorem ggL_law_X7_lying : GoodIn wsL_law wsX7_lying := goodIn_r _ [394, 395, 396, 397, 2, 398, 198, 199, 200, 201, 202, 203, 204, 20, 15, 205, 33, 206, 207, 51, 52, 208, 19, 209, 210, 77, 78, 79, 76, 73, 74, 211, 212, 213, 214, 215, 216, 217, 218, 219, 220, 221, 80, 222, 223, 224, 225, 226, 72, 227, 228, 84, 85, 86, 87, 229, 230, 231, 232, 233, 234, 235, 236, 237, 238, 239, 240, 399, 400, 401, 402, 26, 370, 371, 372, 373, 374, 375, 376, 377, 245, 246, 247, 378, 334, 335, 336, 337, 320, 321, 322, 323, 324, 325, 403, 404, 405, 406, 407, 408, 409, 410, 766, 767, 768, 769, 770, 771, 772, 809, 810, 811, 812, 827, 828, 829, 830, 813, 814, 815, 816, 817, 818, 819, 838, 839, 840, 841] (by decide +kernel) (by decide +kernel)
set_option maxRecDepth 20000 in
theorem gL_law_X7_lying : GoodIn wsL_law (wsV RL 60 RX7 yX7_lying wsX7_lying) := goodIn_app (goodIn_of _ (by decide +kernel)) ggL_law_X7_lying
set_option maxRecDepth 20000 in
theorem ggL_law_X8_lying : GoodIn wsL_law wsX8_lying := goodIn_r _ [414, 267, 268, 5, 269, 144, 145, 146, 270, 271, 272, 273, 140, 105, 106, 274, 275, 276, 277, 278, 279, 280, 281, 282, 283, 259, 260, 284, 285, 261, 262, 263, 264, 265, 266, 286, 287, 288, 289, 290, 291, 292, 103, 293, 294, 295, 296, 297, 298, 299, 300, 301, 302, 303, 304, 305, 306, 415, 416, 417, 383, 384, 385, 386, 387, 388, 389, 390, 110, 342, 343, 344, 345, 773, 774, 775, 776, 777, 778, 779, 780, 781, 782, 783, 784, 785, 786, 787, 788, 789, 790, 791, 792, 793, 794, 795, 796, 797, 798, 799, 800, 801, 802, 803, 804, 805, 806, 807, 808] (by decide +kernel) (by decide +kernel)
set_option maxRecDepth 20000 in
theorem gL_law_X8_lying : GoodIn wsL_law (wsV RL 63 RX8 yX8_lying wsX8_lying) := goodIn_app (goodIn_of _ (by decide +kernel)) ggL_law_X8_lying
set_option maxRecDepth 20000 in
theorem ggL_law_X7_drop : GoodIn wsL_law wsX7_drop := goodIn_r _ [421, 15, 395, 396, 397, 2, 398, 198, 199, 200, 201, 202, 203, 204, 20, 205, 33, 206, 207, 51, 52, 208, 19, 209, 210, 77, 78, 79, 76, 73, 74, 211, 212, 213, 214, 215, 216, 217, 218, 219, 220, 221, 80, 222, 223, 224, 225, 226, 72, 227, 228, 84, 85, 86, 87, 229, 230, 231, 232, 233, 234, 235, 236, 237, 238, 239, 240, 399, 400, 401, 402, 26, 370, 371, 372, 373, 374, 375, 376, 377, 245, 246, 247, 378, 334, 335, 336, 337, 320, 321, 322, 323, 324, 325, 403, 404, 405, 406, 407, 408, 409, 410, 766, 767, 768, 769, 770, 771, 772, 809, 810, 811, 812, 827, 828, 829, 830, 813, 814, 815, 816, 817, 818, 819, 838, 839, 840, 841] (by decide +kernel) (by decide +kernel)
set_option maxRecDepth 20000 in
theorem gL_law_X7_drop : GoodIn wsL_law (wsV RL 64 RX7 yX7_drop wsX7_drop) := goodIn_app (goodIn_of _ (by decide +kernel)) ggL_law_X7_drop
set_option maxRecDepth 20000 in
theorem ggL_law_X8_drop : GoodIn wsL_law wsX8_drop := goodIn_r _ [425, 140, 106, 426, 412, 413, 5, 414, 267, 268, 269, 144, 145, 146, 270, 271, 272, 273, 105, 274, 275, 276, 277, 278, 279, 280, 281, 282, 283, 259, 260, 284, 285, 261, 262, 263, 264, 265, 266, 286, 287, 288, 289, 290, 291, 292, 103, 293, 294, 295, 296, 297, 298, 299, 300, 301, 302, 303, 304, 305, 306, 415, 416, 417, 383, 384, 385, 386, 387, 388, 389, 390, 110, 342, 343, 344, 345, 773, 774, 775, 776, 777, 778, 779, 780, 781, 782, 783, 784, 785, 786, 787, 788, 789, 790, 791, 792, 793, 794, 795, 796, 797, 798, 799, 800, 801, 802, 803, 804, 805, 806, 807, 808] (by decide +kernel) (by decide +kernel)
set_option maxRecDepth 20000 in
theorem gL_law_X8_drop : GoodIn wsL_law (wsV RL 67 RX8 yX8_drop wsX8_drop) := goodIn_app (goodIn_of _ (by decide +kernel)) ggL_law_X8_drop
set_option maxRecDepth 20000 in
theorem ggL_law_X7_rule : GoodIn wsL_law wsX7_rule := goodIn_r _ [430, 26, 27, 766, 767, 768, 769, 770, 771, 772] (by decide +kernel) (by decide +kernel)
set_option maxRecDepth 20000 in
theorem gL_law_X7_rule : GoodIn wsL_law (wsV RL 68 RX7 yX7_rule wsX7_rule) := goodIn_app (goodIn_of _ (by decide +kernel)) ggL_law_X7_rule
set_option maxRecDepth 20000 in
theorem ggL_law_X8_rule : GoodIn wsL_law wsX8_rule := goodIn_r _ [434, 110, 111, 144, 145, 5, 146, 773, 774, 775, 776, 777, 778, 779, 780, 781, 782, 783, 784, 785, 786, 787, 788, 789, 790, 791, 792, 793, 794, 795, 796, 797, 798, 799, 800, 801, 802, 803, 804, 805, 806, 807, 808] (by decide +kernel) (by decide +kernel)
set_option maxRecDepth 20000 in
theorem gL_law_X8_rule : GoodIn wsL_law (wsV RL 71 RX8 yX8_rule wsX8_rule) := goodIn_app (goodIn_of _ (by decide +kernel)) ggL_law_X8_rule
set_option maxRecDepth 20000 in
theorem ggL_law_X7_triangle : GoodIn wsL_law wsX7_triangle := goodIn_r _ [438, 15, 151, 33, 152, 153, 47, 439, 440, 441, 50, 442, 443, 444, 445, 446, 37, 447, 448, 56, 58, 766, 767, 768, 769, 770, 771, 772, 809, 810, 811, 812, 827, 828, 829, 830, 831, 832, 833] (by decide +kernel) (by decide +kernel)
set_option maxRecDepth 20000 in
theorem gL_law_X7_triangle : GoodIn wsL_law (wsV RL 72 RX7 yX7_triangle wsX7_triangle) := goodIn_app (goodIn_of _ (by decide +kernel)) ggL_law_X7_triangle
set_option maxRecDepth 20000 in
theorem ggL_law_X8_triangle : GoodIn wsL_law wsX8_triangle := goodIn_r _ [452, 103, 453, 107, 161, 162, 163, 5, 164, 140, 144, 145, 146, 454, 455, 456, 773, 774, 775, 776, 777, 778, 779, 780, 781, 782, 783, 784, 785, 786, 787, 788, 789, 790, 791, 792, 793, 794, 795, 796, 797, 798, 799, 800, 801, 802, 803, 804, 805, 806, 807, 808] (by decide +kernel) (by decide +kernel)
set_option maxRecDepth 20000 in
theorem gL_law_X8_triangle : GoodIn wsL_law (wsV RL 76 RX8 yX8_triangle wsX8_triangle) := goodIn_app (goodIn_of _ (by decide +kernel)) ggL_law_X8_triangle
set_option maxRecDepth 20000 in
theorem ggL_law_X7_state : GoodIn wsL_law wsX7_state := goodIn_r _ [460, 15, 461, 37, 462, 463, 56, 464, 465, 466, 467, 468, 469, 470, 58, 59, 439, 33, 440, 441, 50, 442, 443, 444, 445, 471, 472, 473, 474, 475, 476, 477, 478, 479, 213, 480, 766, 767, 768, 769, 770, 771, 772, 809, 810, 811, 812, 831, 832, 833, 827, 828, 829, 830] (by decide +kernel) (by decide +kernel)
set_option maxRecDepth 20000 in
theorem gL_law_X7_state : GoodIn wsL_law (wsV RL 77 RX7 yX7_state wsX7_state) := goodIn_app (goodIn_of _ (by decide +kernel)) ggL_law_X7_state
set_option maxRecDepth 20000 in
theorem ggL_law_X8_state : GoodIn wsL_law wsX8_state := goodIn_r _ [484, 485, 486, 487, 5, 488, 453, 144, 145, 146, 489, 490, 491, 492, 493, 494, 495, 496, 497, 498, 499, 500, 501, 502, 503, 504, 103, 107, 505, 506, 507, 508, 454, 455, 456, 773, 774, 775, 776, 777, 778, 779, 780, 781, 782, 783, 784, 785, 786, 787, 788, 789, 790, 791, 792, 793, 794, 795, 796, 797, 798, 799, 800, 801, 802, 803, 804, 805, 806, 807, 808] (by decide +kernel) (by decide +kernel)
set_option maxRecDepth 20000 in
theorem gL_law_X8_state : GoodIn wsL_law (wsV RL 80 RX8 yX8_state wsX8_state) := goodIn_app (goodIn_of _ (by decide +kernel)) ggL_law_X8_state
set_option maxRecDepth 20000 in
theorem ggL_law_X7_within : GoodIn wsL_law wsX7_within := goodIn_r _ [512, 15, 154, 155, 2, 156, 124, 125, 126, 513, 37, 514, 515, 56, 516, 464, 465, 466, 467, 468, 469, 470, 58, 59, 439, 33, 440, 441, 50, 442, 443, 444, 445, 517, 518, 519, 520, 474, 475, 476, 477, 478, 479, 213, 480, 521, 522, 523, 524, 766, 767, 768, 769, 770, 771, 772, 809, 810, 811, 812, 831, 832, 833, 827, 828, 829, 830] (by decide +kernel) (by decide +kernel)
set_option maxRecDepth 20000 in
theorem gL_law_X7_within : GoodIn wsL_law (wsV RL 81 RX7 yX7_within wsX7_within) := goodIn_app (goodIn_of _ (by decide +kernel)) ggL_law_X7_within
set_option maxRecDepth 20000 in
theorem ggL_law_X8_within : GoodIn wsL_law wsX8_within := goodIn_r _ [528, 453, 165, 166, 5, 167, 144, 145, 146, 141, 142, 143, 529, 530, 531, 532, 497, 498, 499, 500, 501, 502, 503, 504, 103, 107, 505, 506, 507, 508, 454, 455, 456, 493, 494, 495, 496, 773, 774, 775, 776, 777, 778, 779, 780, 781, 782, 783, 784, 785, 786, 787, 788, 789, 790, 791, 792, 793, 794, 795, 796, 797, 798, 799, 800, 801, 802, 803, 804, 805, 806, 807, 808] (by decide +kernel) (by decide +kernel)
set_option maxRecDepth 20000 in
theorem gL_law_X8_within : GoodIn wsL_law (wsV RL 84 RX8 yX8_within wsX8_within) := goodIn_app (goodIn_of _ (by decide +kernel)) ggL_law_X8_within
set_option maxRecDepth 20000 in
theorem ggL_law_X7_carried : GoodIn wsL_law wsX7_carried := goodIn_r _ [536, 15, 197, 461, 37, 462, 463, 56, 154, 155, 2, 156, 124, 125, 126, 317, 318, 319, 464, 465, 466, 467, 468, 469, 470, 58, 59, 439, 33, 440, 441, 50, 442, 443, 444, 445, 537, 538, 539, 241, 242, 243, 244, 245, 246, 247, 248, 249, 250, 766, 767, 768, 769, 770, 771, 772, 809, 810, 811, 812, 831, 832, 833, 827, 828, 829, 830] (by decide +kernel) (by decide +kernel)
set_option maxRecDepth 20000 in
theorem gL_law_X7_carried : GoodIn wsL_law (wsV RL 85 RX7 yX7_carried wsX7_carried) := goodIn_app (goodIn_of _ (by decide +kernel)) ggL_law_X7_carried
set_option maxRecDepth 20000 in
theorem ggL_law_X8_carried : GoodIn wsL_law wsX8_carried := goodIn_r _ [543, 258, 485, 486, 487, 5, 488, 453, 144, 145, 146, 165, 166, 167, 141, 142, 143, 493, 494, 495, 496, 497, 498, 499, 500, 501, 502, 503, 504, 103, 107, 505, 506, 507, 508, 454, 455, 456, 307, 308, 309, 310, 311, 312, 773, 774, 775, 776, 777, 778, 779, 780, 781, 782, 783, 784, 785, 786, 787, 788, 789, 790, 791, 792, 793, 794, 795, 796, 797, 798, 799, 800, 801, 802, 803, 804, 805, 806, 807, 808] (by decide +kernel) (by decide +kernel)
set_option maxRecDepth 20000 in
theorem gL_law_X8_carried : GoodIn wsL_law (wsV RL 89 RX8 yX8_carried wsX8_carried) := goodIn_app (goodIn_of _ (by decide +kernel)) ggL_law_X8_carried
set_option maxRecDepth 20000 in
theorem ggL_law_X7_meet : GoodIn wsL_law wsX7_meet := goodIn_r _ [547, 15, 461, 37, 462, 463, 56, 154, 155, 2, 156, 464, 465, 466, 467, 468, 469, 470, 58, 59, 439, 33, 440, 441, 50, 442, 443, 444, 445, 548, 549, 550, 551, 552, 553, 554, 474, 475, 476, 477, 478, 479, 213, 480, 555, 556, 557, 558, 521, 522, 523, 524, 766, 767, 768, 769, 770, 771, 772, 809, 810, 811, 812, 831, 832, 833, 827, 828, 829, 830] (by decide +kernel) (by decide +kernel)
set_option maxRecDepth 20000 in
theorem gL_law_X7_meet : GoodIn wsL_law (wsV RL 90 RX7 yX7_meet wsX7_meet) := goodIn_app (goodIn_of _ (by decide +kernel)) ggL_law_X7_meet
set_option maxRecDepth 20000 in
theorem ggL_law_X8_meet : GoodIn wsL_law wsX8_meet := goodIn_r _ [562, 485, 486, 487, 5, 488, 453, 144, 145, 146, 165, 166, 167, 493, 494, 495, 496, 497, 498, 499, 500, 501, 502, 503, 504, 103, 107, 505, 506, 507, 508, 454, 455, 456, 563, 564, 565, 566, 567, 568, 569, 570, 773, 774, 775, 776, 777, 778, 779, 780, 781, 782, 783, 784, 785, 786, 787, 788, 789, 790, 791, 792, 793, 794, 795, 796, 797, 798, 799, 800, 801, 802, 803, 804, 805, 806, 807, 808] (by decide +kernel) (by decide +kernel)
set_option maxRecDepth 20000 in
theorem gL_law_X8_meet : GoodIn wsL_law (wsV RL 93 RX8 yX8_meet wsX8_meet) := goodIn_app (goodIn_of _ (by decide +kernel)) ggL_law_X8_meet
set_option maxRecDepth 20000 in
theorem ggL_law_X7_area : GoodIn wsL_law wsX7_area := goodIn_r _ [574, 15, 575, 576, 246, 577, 461, 37, 462, 463, 56, 154, 155, 2, 156, 468, 469, 470, 58, 59, 439, 33, 440, 441, 50, 442, 443, 444, 445, 766, 767, 768, 769, 770, 771, 772, 809, 810, 811, 812, 831, 832, 833, 827, 828, 829, 830] (by decide +kernel) (by decide +kernel)
set_option maxRecDepth 20000 in
theorem gL_law_X7_area : GoodIn wsL_law (wsV RL 94 RX7 yX7_area wsX7_area) := goodIn_app (goodIn_of _ (by decide +kernel)) ggL_law_X7_area
set_option maxRecDepth 20000 in
theorem ggL_law_X8_area : GoodIn wsL_law wsX8_area := goodIn_r _ [581, 485, 486, 487, 5, 488, 453, 144, 145, 146, 165, 166, 167, 497, 498, 499, 500, 501, 502, 503, 504, 103, 107, 505, 506, 507, 508, 454, 455, 456, 773, 774, 775, 776, 777, 778, 779, 780, 781, 782, 783, 784, 785, 786, 787, 788, 789, 790, 791, 792, 793, 794, 795, 796, 797, 798, 799, 800, 801, 802, 803, 804, 805, 806, 807, 808] (by decide +kernel) (by decide +kernel)
set_option maxRecDepth 20000 in
theorem gL_law_X8_area : GoodIn wsL_law (wsV RL 97 RX8 yX8_area wsX8_area) := goodIn_app (goodIn_of _ (by decide +kernel)) ggL_law_X8_area
set_option maxRecDepth 20000 in
theorem ggL_law_X7_thing : GoodIn wsL_law wsX7_thing := goodIn_r _ [585, 15, 154, 155, 2, 156, 124, 125, 126, 586, 14, 587, 588, 42, 43, 589, 41, 590, 591, 63, 64, 65, 66, 766, 767, 768, 769, 770, 771, 772, 809, 810, 811, 812, 834, 835, 836, 837] (by decide +kernel) (by decide +kernel)
set_option maxRecDepth 20000 in
theorem gL_law_X7_thing : GoodIn wsL_law (wsV RL 98 RX7 yX7_thing wsX7_thing) := goodIn_app (goodIn_of _ (by decide +kernel)) ggL_law_X7_thing
set_option maxRecDepth 20000 in
theorem ggL_law_X8_thing : GoodIn wsL_law wsX8_thing := goodIn_r _ [595, 108, 109, 165, 166, 5, 167, 144, 145, 146, 141, 142, 143, 773, 774, 775, 776, 777, 778, 779, 780, 781, 782, 783, 784, 785, 786, 787, 788, 789, 790, 791, 792, 793, 794, 795, 796, 797, 798, 799, 800, 801, 802, 803, 804, 805, 806, 807, 808] (by decide +kernel) (by decide +kernel)
set_option maxRecDepth 20000 in
theorem gL_law_X8_thing : GoodIn wsL_law (wsV RL 101 RX8 yX8_thing wsX8_thing) := goodIn_app (goodIn_of _ (by decide +kernel)) ggL_law_X8_thing
set_option maxRecDepth 20000 in
theorem ggL_law_X7_sweep : GoodIn wsL_law wsX7_sweep := goodIn_r _ [599, 15, 154, 155, 2, 156, 586, 14, 587, 588, 42, 43, 766, 767, 768, 769, 770, 771, 772, 834, 835, 836, 837, 809, 810, 811, 812] (by decide +kernel) (by decide +kernel)
set_option maxRecDepth 20000 in
theorem gL_law_X7_sweep : GoodIn wsL_law (wsV RL 102 RX7 yX7_sweep wsX7_sweep) := goodIn_app (goodIn_of _ (by decide +kernel)) ggL_law_X7_sweep
set_option maxRecDepth 20000 in
theorem ggL_law_X8_sweep : GoodIn wsL_law wsX8_sweep := goodIn_r _ [603, 108, 165, 166, 5, 167, 144, 145, 146, 773, 774, 775, 776, 777, 778, 779, 780, 781, 782, 783, 784, 785, 786, 787, 788, 789, 790, 791, 792, 793, 794, 795, 796, 797, 798, 799, 800, 801, 802, 803, 804, 805, 806, 807, 808] (by decide +kernel) (by decide +kernel)
set_option maxRecDepth 20000 in
theorem gL_law_X8_sweep : GoodIn wsL_law (wsV RL 105 RX8 yX8_sweep wsX8_sweep) := goodIn_app (goodIn_of _ (by decide +kernel)) ggL_law_X8_sweep
set_option maxRecDepth 20000 in
theorem ggL_law_X7_match : GoodIn wsL_law wsX7_match := goodIn_r _ [607, 15, 24, 27, 198, 199, 2, 200, 608, 41, 609, 610, 63, 201, 202, 203, 204, 20, 205, 33, 206, 207, 51, 52, 208, 19, 209, 210, 77, 78, 79, 76, 73, 74, 211, 212, 213, 214, 215, 216, 217, 218, 219, 220, 221, 80, 222, 223, 224, 225, 226, 72, 227, 228, 84, 85, 86, 87, 229, 230, 231, 232, 233, 234, 235, 236, 237, 238, 239, 240, 611, 23, 612, 613, 96, 614, 615, 616, 617, 98, 97, 618, 245, 246, 247, 92, 619, 620, 621, 622, 623, 323, 324, 325, 624, 625, 626, 627, 628, 629, 630, 631, 93, 632, 633, 634, 635, 636, 637, 638, 639, 640, 641, 642, 643, 644, 645, 646, 647, 648, 649, 650, 95, 94, 651, 652, 653, 654, 766, 767, 768, 769, 770, 771, 772, 809, 810, 811, 812, 820, 821, 822, 823, 824, 825, 826, 834, 835, 836, 837, 827, 828, 829, 830, 813, 814, 815, 816, 817, 818, 819, 838, 839, 840, 841] (by decide +kernel) (by decide +kernel)
set_option maxRecDepth 20000 in
theorem gL_law_X7_match : GoodIn wsL_law (wsV RL 106 RX7 yX7_match wsX7_match) := goodIn_app (goodIn_of _ (by decide +kernel)) ggL_law_X7_match
set_option maxRecDepth 20000 in
theorem ggL_law_X8_match : GoodIn wsL_law wsX8_match := goodIn_r _ [658, 108, 119, 267, 268, 5, 269, 144, 145, 146, 659, 660, 661, 662, 118, 663, 664, 270, 271, 272, 273, 140, 105, 106, 274, 275, 276, 277, 278, 279, 280, 281, 282, 283, 259, 260, 284, 285, 261, 262, 263, 264, 265, 266, 286, 287, 288, 289, 290, 291, 292, 103, 293, 294, 295, 296, 297, 298, 299, 300, 301, 302, 303, 304, 305, 306, 665, 666, 667, 668, 109, 117, 669, 670, 671, 672, 673, 674, 675, 676, 677, 678, 111, 773, 774, 775, 776, 777, 778, 779, 780, 781, 782, 783, 784, 785, 786, 787, 788, 789, 790, 791, 792, 793, 794, 795, 796, 797, 798, 799, 800, 801, 802, 803, 804, 805, 806, 807, 808] (by decide +kernel) (by decide +kernel)
set_option maxRecDepth 20000 in
theorem gL_law_X8_match : GoodIn wsL_law (wsV RL 109 RX8 yX8_match wsX8_match) := goodIn_app (goodIn_of _ (by decide +kernel)) ggL_law_X8_match
set_option maxRecDepth 20000 in
theorem ggL_law_X7_cost : GoodIn wsL_law wsX7_cost := goodIn_r _ [682, 24, 27, 198, 199, 2, 200, 201, 202, 203, 204, 20, 15, 205, 33, 206, 207, 51, 52, 208, 19, 209, 210, 77, 78, 79, 76, 73, 74, 211, 212, 213, 214, 215, 216, 217, 218, 219, 220, 221, 80, 222, 223, 224, 225, 226, 72, 227, 228, 84, 85, 86, 87, 229, 230, 231, 232, 233, 234, 235, 236, 237, 238, 239, 240, 611, 23, 612, 613, 96, 614, 615, 616, 617, 98, 97, 618, 245, 246, 247, 92, 619, 620, 621, 622, 623, 323, 324, 325, 624, 625, 626, 627, 628, 629, 630, 631, 93, 632, 633, 634, 635, 636, 637, 638, 639, 640, 641, 642, 643, 644, 645, 646, 647, 648, 649, 650, 95, 94, 651, 652, 653, 654, 683, 684, 685, 766, 767, 768, 769, 770, 771, 772, 809, 810, 811, 812, 827, 828, 829, 830, 813, 814, 815, 816, 817, 818, 819, 838, 839, 840, 841, 820, 821, 822, 823, 824, 825, 826, 834, 835, 836, 837] (by decide +kernel) (by decide +kernel)
set_option maxRecDepth 20000 in
theorem gL_law_X7_cost : GoodIn wsL_law (wsV RL 110 RX7 yX7_cost wsX7_cost) := goodIn_app (goodIn_of _ (by decide +kernel)) ggL_law_X7_cost
set_option maxRecDepth 20000 in
theorem ggL_law_X8_cost : GoodIn wsL_law wsX8_cost := goodIn_r _ [689, 664, 267, 268, 5, 269, 144, 145, 146, 659, 660, 661, 662, 118, 663, 119, 108, 270, 271, 272, 273, 140, 105, 106, 274, 275, 276, 277, 278, 279, 280, 281, 282, 283, 259, 260, 284, 285, 261, 262, 263, 264, 265, 266, 286, 287, 288, 289, 290, 291, 292, 103, 293, 294, 295, 296, 297, 298, 299, 300, 301, 302, 303, 304, 305, 306, 665, 666, 667, 668, 109, 117, 669, 670, 671, 672, 673, 674, 675, 676, 677, 678, 111, 773, 774, 775, 776, 777, 778, 779, 780, 781, 782, 783, 784, 785, 786, 787, 788, 789, 790, 791, 792, 793, 794, 795, 796, 797, 798, 799, 800, 801, 802, 803, 804, 805, 806, 807, 808] (by decide +kernel) (by decide +kernel)
set_option maxRecDepth 20000 in
theorem gL_law_X8_cost : GoodIn wsL_law (wsV RL 113 RX8 yX8_cost wsX8_cost) := goodIn_app (goodIn_of _ (by decide +kernel)) ggL_law_X8_cost
set_option maxRecDepth 20000 in
theorem ggL_law_X7_left : GoodIn wsL_law wsX7_left := goodIn_r _ [693, 24, 27, 198, 199, 2, 200, 201, 202, 203, 204, 20, 15, 205, 33, 206, 207, 51, 52, 208, 19, 209, 210, 77, 78, 79, 76, 73, 74, 211, 212, 213, 214, 215, 216, 217, 218, 219, 220, 221, 80, 222, 223, 224, 225, 226, 72, 227, 228, 84, 85, 86, 87, 229, 230, 231, 232, 233, 234, 235, 236, 237, 238, 239, 240, 611, 23, 612, 613, 96, 614, 615, 616, 617, 98, 97, 618, 245, 246, 247, 92, 619, 620, 621, 622, 623, 323, 324, 325, 624, 625, 626, 627, 628, 629, 630, 631, 93, 632, 633, 634, 635, 636, 637, 638, 639, 640, 641, 642, 643, 644, 645, 646, 647, 648, 649, 650, 95, 94, 651, 652, 653, 654, 694, 695, 696, 766, 767, 768, 769, 770, 771, 772, 809, 810, 811, 812, 827, 828, 829, 830, 813, 814, 815, 816, 817, 818, 819, 838, 839, 840, 841, 820, 821, 822, 823, 824, 825, 826, 834, 835, 836, 837] (by decide +kernel) (by decide +kernel)
set_option maxRecDepth 20000 in
theorem gL_law_X7_left : GoodIn wsL_law (wsV RL 114 RX7 yX7_left wsX7_left) := goodIn_app (goodIn_of _ (by decide +kernel)) ggL_law_X7_left
set_option maxRecDepth 20000 in
theorem ggL_law_X8_left : GoodIn wsL_law wsX8_left := goodIn_r _ [700, 108, 119, 267, 268, 5, 269, 144, 145, 146, 659, 660, 661, 662, 118, 663, 664, 270, 271, 272, 273, 140, 105, 106, 274, 275, 276, 277, 278, 279, 280, 281, 282, 283, 259, 260, 284, 285, 261, 262, 263, 264, 265, 266, 286, 287, 288, 289, 290, 291, 292, 103, 293, 294, 295, 296, 297, 298, 299, 300, 301, 302, 303, 304, 305, 306, 665, 666, 667, 668, 109, 117, 669, 670, 671, 672, 673, 674, 675, 676, 677, 678, 111, 773, 774, 775, 776, 777, 778, 779, 780, 781, 782, 783, 784, 785, 786, 787, 788, 789, 790, 791, 792, 793, 794, 795, 796, 797, 798, 799, 800, 801, 802, 803, 804, 805, 806, 807, 808] (by decide +kernel) (by decide +kernel)
set_option maxRecDepth 20000 in
theorem gL_law_X8_left : GoodIn wsL_law (wsV RL 117 RX8 yX8_left wsX8_left) := goodIn_app (goodIn_of _ (by decide +kernel)) ggL_law_X8_left
set_option maxRecDepth 20000 in
theorem ggL_law_X7_many : GoodIn wsL_law wsX7_many := goodIn_r _ [704, 15, 205, 33, 206, 207, 51, 52, 410, 212, 213, 214, 215, 216, 217, 705, 37, 706, 707, 56, 708, 471, 472, 473, 474, 475, 476, 477, 467, 468, 469, 470, 58, 59, 439, 440, 441, 50, 442, 443, 444, 445, 478, 479, 480, 709, 710, 711, 516, 464, 465, 466, 712, 713, 714, 715, 548, 549, 550, 551, 552, 553, 554, 555, 556, 557, 558, 521, 522, 523, 524, 766, 767, 768, 769, 770, 771, 772, 809, 810, 811, 812, 827, 828, 829, 830, 831, 832, 833, 834, 835, 836, 837] (by decide +kernel) (by decide +kernel)
set_option maxRecDepth 20000 in
theorem gL_law_X7_many : GoodIn wsL_law (wsV RL 118 RX7 yX7_many wsX7_many) := goodIn_app (goodIn_of _ (by decide +kernel)) ggL_law_X7_many
set_option maxRecDepth 20000 in
theorem ggL_law_X8_many : GoodIn wsL_law wsX8_many := goodIn_r _ [719, 140, 453, 108, 270, 271, 272, 5, 273, 105, 106, 415, 416, 417, 720, 721, 722, 723, 489, 490, 491, 492, 493, 494, 495, 496, 497, 498, 499, 500, 501, 502, 503, 504, 103, 107, 505, 506, 507, 508, 454, 455, 456, 724, 725, 726, 727, 563, 564, 565, 566, 567, 568, 569, 570, 773, 774, 775, 776, 777, 778, 779, 780, 781, 782, 783, 784, 785, 786, 787, 788, 789, 790, 791, 792, 793, 794, 795, 796, 797, 798, 799, 800, 801, 802, 803, 804, 805, 806, 807, 808] (by decide +kernel) (by decide +kernel)
set_option maxRecDepth 20000 in
theorem gL_law_X8_many : GoodIn wsL_law (wsV RL 121 RX8 yX8_many wsX8_many) := goodIn_app (goodIn_of _ (by decide +kernel)) ggL_law_X8_many
set_option maxRecDepth 20000 in
theorem ggL_law_X7_keep : GoodIn wsL_law wsX7_keep := goodIn_r _ [731, 16, 15, 25, 732, 14, 733, 734, 34, 38, 42, 43, 735, 33, 736, 737, 47, 51, 52, 50, 738, 739, 740, 741, 742, 37, 743, 744, 56, 58, 745, 746, 41, 747, 748, 63, 64, 749, 65, 66, 766, 767, 768, 769, 770, 771, 772, 809, 810, 811, 812, 827, 828, 829, 830, 831, 832, 833, 834, 835, 836, 837] (by decide +kernel) (by decide +kernel)
set_option maxRecDepth 20000 in
theorem gL_law_X7_keep : GoodIn wsL_law (wsV RL 122 RX7 yX7_keep wsX7_keep) := goodIn_app (goodIn_of _ (by decide +kernel)) ggL_law_X7_keep
set_option maxRecDepth 20000 in
theorem ggL_law_X8_keep : GoodIn wsL_law wsX8_keep := goodIn_r _ [753, 754, 112, 140, 453, 108, 103, 113, 107, 115, 109, 116, 114, 105, 106, 755, 756, 5, 757, 773, 774, 775, 776, 777, 778, 779, 780, 781, 782, 783, 784, 785, 786, 787, 788, 789, 790, 791, 792, 793, 794, 795, 796, 797, 798, 799, 800, 801, 802, 803, 804, 805, 806, 807, 808] (by decide +kernel) (by decide +kernel)
set_option maxRecDepth 20000 in
theorem gL_law_X8_keep : GoodIn wsL_law (wsV RL 126 RX8 yX8_keep wsX8_keep) := goodIn_app (goodIn_of _ (by decide +kernel)) ggL_law_X8_keep
set_option maxRecDepth 20000 in
theorem ggL_law_X7_back : GoodIn wsL_law wsX7_back := goodIn_r _ [761, 25, 15, 16, 732, 14, 733, 734, 34, 38, 42, 43, 735, 33, 736, 737, 47, 51, 52, 50, 738, 739, 740, 741, 742, 37, 743, 744, 56, 58, 745, 746, 41, 747, 748, 63, 64, 749, 65, 66, 766, 767, 768, 769, 770, 771, 772, 809, 810, 811, 812, 827, 828, 829, 830, 831, 832, 833, 834, 835, 836, 837] (by decide +kernel) (by decide +kernel)
set_option maxRecDepth 20000 in
theorem gL_law_X7_back : GoodIn wsL_law (wsV RL 127 RX7 yX7_back wsX7_back) := goodIn_app (goodIn_of _ (by decide +kernel)) ggL_law_X7_back
set_option maxRecDepth 20000 in
theorem ggL_law_X8_back : GoodIn wsL_law wsX8_back := goodIn_r _ [765, 754, 112, 140, 453, 108, 113, 103, 115, 107, 116, 109, 105, 114, 106, 755, 756, 5, 757, 773, 774, 775, 776, 777, 778, 779, 780, 781, 782, 783, 784, 785, 786, 787, 788, 789, 790, 791, 792, 793, 794, 795, 796, 797, 798, 799, 800, 801, 802, 803, 804, 805, 806, 807, 808] (by decide +kernel) (by decide +kernel)
set_option maxRecDepth 20000 in
theorem gL_law_X8_back : GoodIn wsL_law (wsV RL 130 RX8 yX8_back wsX8_back) := goodIn_app (goodIn_of _ (by decide +kernel)) ggL_law_X8_back
theorem dL_law_0 : decode cL_law 0 = .ok (.new 7, 3) := by decide +kernel
theorem dL_law_3 : decode cL_law 3 = .ok (.dup, 1) := by decide +kernel
theorem dL_law_4 : decode cL_law 4 = .ok (.invokespecial 9, 3) := by decide +kernel
theorem dL_law_7 : decode cL_law 7 = .ok (.astore_n 1, 1) := by decide +kernel
theorem dL_law_8 : decode cL_law 8 = .ok (.new 10, 3) := by decide +kernel
theorem dL_law_11 : decode cL_law 11 = .ok (.dup, 1) := by decide +kernel
theorem dL_law_12 : decode cL_law 12 = .ok (.invokespecial 12, 3) := by decide +kernel
theorem dL_law_15 : decode cL_law 15 = .ok (.astore_n 2, 1) := by decide +kernel
theorem dL_law_16 : decode cL_law 16 = .ok (.iconst 0, 1) := by decide +kernel
theorem dL_law_17 : decode cL_law 17 = .ok (.istore_n 3, 1) := by decide +kernel
theorem dL_law_18 : decode cL_law 18 = .ok (.iload_n 3, 1) := by decide +kernel
theorem dL_law_19 : decode cL_law 19 = .ok (.aload_n 0, 1) := by decide +kernel
theorem dL_law_20 : decode cL_law 20 = .ok (.arraylength, 1) := by decide +kernel
theorem dL_law_21 : decode cL_law 21 = .ok (.bipush 6, 2) := by decide +kernel
theorem dL_law_23 : decode cL_law 23 = .ok (.isub, 1) := by decide +kernel
theorem dL_law_24 : decode cL_law 24 = .ok (.if_icmp .gt 1096, 3) := by decide +kernel
theorem dL_law_27 : decode cL_law 27 = .ok (.aload_n 0, 1) := by decide +kernel
theorem dL_law_28 : decode cL_law 28 = .ok (.iload_n 3, 1) := by decide +kernel
theorem dL_law_29 : decode cL_law 29 = .ok (.iaload, 1) := by decide +kernel
theorem dL_law_30 : decode cL_law 30 = .ok (.bipush 31, 2) := by decide +kernel
theorem dL_law_32 : decode cL_law 32 = .ok (.iand, 1) := by decide +kernel
theorem dL_law_33 : decode cL_law 33 = .ok (.tableswitch 1081 0 26 #[123, 176, 229, 278, 327, 360, 394, 448, 492, 526, 549, 572, 595, 628, 671, 694, 737, 801, 844, 877, 930, 953, 986, 1009, 1032, 1055, 1068], 123) := by decide +kernel
theorem dL_law_156 : decode cL_law 156 = .ok (.aload_n 1, 1) := by decide +kernel
theorem dL_law_157 : decode cL_law 157 = .ok (.aload_n 0, 1) := by decide +kernel
theorem dL_law_158 : decode cL_law 158 = .ok (.iload_n 3, 1) := by decide +kernel
theorem dL_law_159 : decode cL_law 159 = .ok (.iconst 1, 1) := by decide +kernel
theorem dL_law_160 : decode cL_law 160 = .ok (.iadd, 1) := by decide +kernel
theorem dL_law_161 : decode cL_law 161 = .ok (.iaload, 1) := by decide +kernel
theorem dL_law_162 : decode cL_law 162 = .ok (.aload_n 0, 1) := by decide +kernel
theorem dL_law_163 : decode cL_law 163 = .ok (.iload_n 3, 1) := by decide +kernel
theorem dL_law_164 : decode cL_law 164 = .ok (.iconst 2, 1) := by decide +kernel
theorem dL_law_165 : decode cL_law 165 = .ok (.iadd, 1) := by decide +kernel
theorem dL_law_166 : decode cL_law 166 = .ok (.iaload, 1) := by decide +kernel
theorem dL_law_167 : decode cL_law 167 = .ok (.aload_n 0, 1) := by decide +kernel
theorem dL_law_168 : decode cL_law 168 = .ok (.iload_n 3, 1) := by decide +kernel
theorem dL_law_169 : decode cL_law 169 = .ok (.iconst 3, 1) := by decide +kernel
theorem dL_law_170 : decode cL_law 170 = .ok (.iadd, 1) := by decide +kernel
theorem dL_law_171 : decode cL_law 171 = .ok (.iaload, 1) := by decide +kernel
theorem dL_law_172 : decode cL_law 172 = .ok (.aload_n 0, 1) := by decide +kernel
theorem dL_law_173 : decode cL_law 173 = .ok (.iload_n 3, 1) := by decide +kernel
theorem dL_law_174 : decode cL_law 174 = .ok (.iconst 4, 1) := by decide +kernel
theorem dL_law_175 : decode cL_law 175 = .ok (.iadd, 1) := by decide +kernel
theorem dL_law_176 : decode cL_law 176 = .ok (.iaload, 1) := by decide +kernel
theorem dL_law_177 : decode cL_law 177 = .ok (.invokevirtual 13, 3) := by decide +kernel
theorem dL_law_180 : decode cL_law 180 = .ok (.aload_n 2, 1) := by decide +kernel
theorem dL_law_181 : decode cL_law 181 = .ok (.aload_n 0, 1) := by decide +kernel
theorem dL_law_182 : decode cL_law 182 = .ok (.iload_n 3, 1) := by decide +kernel
theorem dL_law_183 : decode cL_law 183 = .ok (.iconst 1, 1) := by decide +kernel
theorem dL_law_184 : decode cL_law 184 = .ok (.iadd, 1) := by decide +kernel
theorem dL_law_185 : decode cL_law 185 = .ok (.iaload, 1) := by decide +kernel
theorem dL_law_186 : decode cL_law 186 = .ok (.aload_n 0, 1) := by decide +kernel
theorem dL_law_187 : decode cL_law 187 = .ok (.iload_n 3, 1) := by decide +kernel
theorem dL_law_188 : decode cL_law 188 = .ok (.iconst 2, 1) := by decide +kernel
theorem dL_law_189 : decode cL_law 189 = .ok (.iadd, 1) := by decide +kernel
theorem dL_law_190 : decode cL_law 190 = .ok (.iaload, 1) := by decide +kernel
theorem dL_law_191 : decode cL_law 191 = .ok (.aload_n 0, 1) := by decide +kernel
theorem dL_law_192 : decode cL_law 192 = .ok (.iload_n 3, 1) := by decide +kernel
theorem dL_law_193 : decode cL_law 193 = .ok (.iconst 3, 1) := by decide +kernel
theorem dL_law_194 : decode cL_law 194 = .ok (.iadd, 1) := by decide +kernel
theorem dL_law_195 : decode cL_law 195 = .ok (.iaload, 1) := by decide +kernel
theorem dL_law_196 : decode cL_law 196 = .ok (.aload_n 0, 1) := by decide +kernel
theorem dL_law_197 : decode cL_law 197 = .ok (.iload_n 3, 1) := by decide +kernel
theorem dL_law_198 : decode cL_law 198 = .ok (.iconst 4, 1) := by decide +kernel
theorem dL_law_199 : decode cL_law 199 = .ok (.iadd, 1) := by decide +kernel
theorem dL_law_200 : decode cL_law 200 = .ok (.iaload, 1) := by decide +kernel
theorem dL_law_201 : decode cL_law 201 = .ok (.invokevirtual 17, 3) := by decide +kernel
theorem dL_law_204 : decode cL_law 204 = .ok (.if_icmp .eq 910, 3) := by decide +kernel
theorem dL_law_207 : decode cL_law 207 = .ok (.iconst 0, 1) := by decide +kernel
theorem dL_law_208 : decode cL_law 208 = .ok (.ireturn, 1) := by decide +kernel
theorem dL_law_209 : decode cL_law 209 = .ok (.aload_n 1, 1) := by decide +kernel
theorem dL_law_210 : decode cL_law 210 = .ok (.aload_n 0, 1) := by decide +kernel
theorem dL_law_211 : decode cL_law 211 = .ok (.iload_n 3, 1) := by decide +kernel
theorem dL_law_212 : decode cL_law 212 = .ok (.iconst 1, 1) := by decide +kernel
theorem dL_law_213 : decode cL_law 213 = .ok (.iadd, 1) := by decide +kernel
theorem dL_law_214 : decode cL_law 214 = .ok (.iaload, 1) := by decide +kernel
theorem dL_law_215 : decode cL_law 215 = .ok (.aload_n 0, 1) := by decide +kernel
theorem dL_law_216 : decode cL_law 216 = .ok (.iload_n 3, 1) := by decide +kernel
theorem dL_law_217 : decode cL_law 217 = .ok (.iconst 2, 1) := by decide +kernel
theorem dL_law_218 : decode cL_law 218 = .ok (.iadd, 1) := by decide +kernel
theorem dL_law_219 : decode cL_law 219 = .ok (.iaload, 1) := by decide +kernel
theorem dL_law_220 : decode cL_law 220 = .ok (.aload_n 0, 1) := by decide +kernel
theorem dL_law_221 : decode cL_law 221 = .ok (.iload_n 3, 1) := by decide +kernel
theorem dL_law_222 : decode cL_law 222 = .ok (.iconst 3, 1) := by decide +kernel
theorem dL_law_223 : decode cL_law 223 = .ok (.iadd, 1) := by decide +kernel
theorem dL_law_224 : decode cL_law 224 = .ok (.iaload, 1) := by decide +kernel
theorem dL_law_225 : decode cL_law 225 = .ok (.aload_n 0, 1) := by decide +kernel
theorem dL_law_226 : decode cL_law 226 = .ok (.iload_n 3, 1) := by decide +kernel
theorem dL_law_227 : decode cL_law 227 = .ok (.iconst 4, 1) := by decide +kernel
theorem dL_law_228 : decode cL_law 228 = .ok (.iadd, 1) := by decide +kernel
theorem dL_law_229 : decode cL_law 229 = .ok (.iaload, 1) := by decide +kernel
theorem dL_law_230 : decode cL_law 230 = .ok (.invokevirtual 18, 3) := by decide +kernel
theorem dL_law_233 : decode cL_law 233 = .ok (.aload_n 2, 1) := by decide +kernel
theorem dL_law_234 : decode cL_law 234 = .ok (.aload_n 0, 1) := by decide +kernel
theorem dL_law_235 : decode cL_law 235 = .ok (.iload_n 3, 1) := by decide +kernel
theorem dL_law_236 : decode cL_law 236 = .ok (.iconst 1, 1) := by decide +kernel
theorem dL_law_237 : decode cL_law 237 = .ok (.iadd, 1) := by decide +kernel
theorem dL_law_238 : decode cL_law 238 = .ok (.iaload, 1) := by decide +kernel
theorem dL_law_239 : decode cL_law 239 = .ok (.aload_n 0, 1) := by decide +kernel
theorem dL_law_240 : decode cL_law 240 = .ok (.iload_n 3, 1) := by decide +kernel
theorem dL_law_241 : decode cL_law 241 = .ok (.iconst 2, 1) := by decide +kernel
theorem dL_law_242 : decode cL_law 242 = .ok (.iadd, 1) := by decide +kernel
theorem dL_law_243 : decode cL_law 243 = .ok (.iaload, 1) := by decide +kernel
theorem dL_law_244 : decode cL_law 244 = .ok (.aload_n 0, 1) := by decide +kernel
theorem dL_law_245 : decode cL_law 245 = .ok (.iload_n 3, 1) := by decide +kernel
theorem dL_law_246 : decode cL_law 246 = .ok (.iconst 3, 1) := by decide +kernel
theorem dL_law_247 : decode cL_law 247 = .ok (.iadd, 1) := by decide +kernel
theorem dL_law_248 : decode cL_law 248 = .ok (.iaload, 1) := by decide +kernel
theorem dL_law_249 : decode cL_law 249 = .ok (.aload_n 0, 1) := by decide +kernel
theorem dL_law_250 : decode cL_law 250 = .ok (.iload_n 3, 1) := by decide +kernel
theorem dL_law_251 : decode cL_law 251 = .ok (.iconst 4, 1) := by decide +kernel
theorem dL_law_252 : decode cL_law 252 = .ok (.iadd, 1) := by decide +kernel
theorem dL_law_253 : decode cL_law 253 = .ok (.iaload, 1) := by decide +kernel
theorem dL_law_254 : decode cL_law 254 = .ok (.invokevirtual 21, 3) := by decide +kernel
theorem dL_law_257 : decode cL_law 257 = .ok (.if_icmp .eq 857, 3) := by decide +kernel
theorem dL_law_260 : decode cL_law 260 = .ok (.iconst 0, 1) := by decide +kernel
theorem dL_law_261 : decode cL_law 261 = .ok (.ireturn, 1) := by decide +kernel
theorem dL_law_262 : decode cL_law 262 = .ok (.aload_n 1, 1) := by decide +kernel
theorem dL_law_263 : decode cL_law 263 = .ok (.aload_n 0, 1) := by decide +kernel
theorem dL_law_264 : decode cL_law 264 = .ok (.iload_n 3, 1) := by decide +kernel
theorem dL_law_265 : decode cL_law 265 = .ok (.iconst 1, 1) := by decide +kernel
theorem dL_law_266 : decode cL_law 266 = .ok (.iadd, 1) := by decide +kernel
theorem dL_law_267 : decode cL_law 267 = .ok (.iaload, 1) := by decide +kernel
theorem dL_law_268 : decode cL_law 268 = .ok (.aload_n 0, 1) := by decide +kernel
theorem dL_law_269 : decode cL_law 269 = .ok (.iload_n 3, 1) := by decide +kernel
theorem dL_law_270 : decode cL_law 270 = .ok (.iconst 2, 1) := by decide +kernel
theorem dL_law_271 : decode cL_law 271 = .ok (.iadd, 1) := by decide +kernel
theorem dL_law_272 : decode cL_law 272 = .ok (.iaload, 1) := by decide +kernel
theorem dL_law_273 : decode cL_law 273 = .ok (.ifCond .eq 7, 3) := by decide +kernel
theorem dL_law_276 : decode cL_law 276 = .ok (.iconst 1, 1) := by decide +kernel
theorem dL_law_277 : decode cL_law 277 = .ok (.goto 4, 3) := by decide +kernel
theorem dL_law_280 : decode cL_law 280 = .ok (.iconst 0, 1) := by decide +kernel
theorem dL_law_281 : decode cL_law 281 = .ok (.invokevirtual 22, 3) := by decide +kernel
theorem dL_law_284 : decode cL_law 284 = .ok (.aload_n 2, 1) := by decide +kernel
theorem dL_law_285 : decode cL_law 285 = .ok (.aload_n 0, 1) := by decide +kernel
theorem dL_law_286 : decode cL_law 286 = .ok (.iload_n 3, 1) := by decide +kernel
theorem dL_law_287 : decode cL_law 287 = .ok (.iconst 1, 1) := by decide +kernel
theorem dL_law_288 : decode cL_law 288 = .ok (.iadd, 1) := by decide +kernel
theorem dL_law_289 : decode cL_law 289 = .ok (.iaload, 1) := by decide +kernel
theorem dL_law_290 : decode cL_law 290 = .ok (.aload_n 0, 1) := by decide +kernel
theorem dL_law_291 : decode cL_law 291 = .ok (.iload_n 3, 1) := by decide +kernel
theorem dL_law_292 : decode cL_law 292 = .ok (.iconst 2, 1) := by decide +kernel
theorem dL_law_293 : decode cL_law 293 = .ok (.iadd, 1) := by decide +kernel
theorem dL_law_294 : decode cL_law 294 = .ok (.iaload, 1) := by decide +kernel
theorem dL_law_295 : decode cL_law 295 = .ok (.ifCond .eq 7, 3) := by decide +kernel
theorem dL_law_298 : decode cL_law 298 = .ok (.iconst 1, 1) := by decide +kernel
theorem dL_law_299 : decode cL_law 299 = .ok (.goto 4, 3) := by decide +kernel
theorem dL_law_302 : decode cL_law 302 = .ok (.iconst 0, 1) := by decide +kernel
theorem dL_law_303 : decode cL_law 303 = .ok (.invokevirtual 26, 3) := by decide +kernel
theorem dL_law_306 : decode cL_law 306 = .ok (.if_icmp .eq 808, 3) := by decide +kernel
theorem dL_law_309 : decode cL_law 309 = .ok (.iconst 0, 1) := by decide +kernel
theorem dL_law_310 : decode cL_law 310 = .ok (.ireturn, 1) := by decide +kernel
theorem dL_law_311 : decode cL_law 311 = .ok (.aload_n 1, 1) := by decide +kernel
theorem dL_law_312 : decode cL_law 312 = .ok (.aload_n 0, 1) := by decide +kernel
theorem dL_law_313 : decode cL_law 313 = .ok (.iload_n 3, 1) := by decide +kernel
theorem dL_law_314 : decode cL_law 314 = .ok (.iconst 1, 1) := by decide +kernel
theorem dL_law_315 : decode cL_law 315 = .ok (.iadd, 1) := by decide +kernel
theorem dL_law_316 : decode cL_law 316 = .ok (.iaload, 1) := by decide +kernel
theorem dL_law_317 : decode cL_law 317 = .ok (.aload_n 0, 1) := by decide +kernel
theorem dL_law_318 : decode cL_law 318 = .ok (.iload_n 3, 1) := by decide +kernel
theorem dL_law_319 : decode cL_law 319 = .ok (.iconst 2, 1) := by decide +kernel
theorem dL_law_320 : decode cL_law 320 = .ok (.iadd, 1) := by decide +kernel
theorem dL_law_321 : decode cL_law 321 = .ok (.iaload, 1) := by decide +kernel
theorem dL_law_322 : decode cL_law 322 = .ok (.ifCond .eq 7, 3) := by decide +kernel
theorem dL_law_325 : decode cL_law 325 = .ok (.iconst 1, 1) := by decide +kernel
theorem dL_law_326 : decode cL_law 326 = .ok (.goto 4, 3) := by decide +kernel
theorem dL_law_329 : decode cL_law 329 = .ok (.iconst 0, 1) := by decide +kernel
theorem dL_law_330 : decode cL_law 330 = .ok (.invokevirtual 27, 3) := by decide +kernel
theorem dL_law_333 : decode cL_law 333 = .ok (.aload_n 2, 1) := by decide +kernel
theorem dL_law_334 : decode cL_law 334 = .ok (.aload_n 0, 1) := by decide +kernel
theorem dL_law_335 : decode cL_law 335 = .ok (.iload_n 3, 1) := by decide +kernel
theorem dL_law_336 : decode cL_law 336 = .ok (.iconst 1, 1) := by decide +kernel
theorem dL_law_337 : decode cL_law 337 = .ok (.iadd, 1) := by decide +kernel
theorem dL_law_338 : decode cL_law 338 = .ok (.iaload, 1) := by decide +kernel
theorem dL_law_339 : decode cL_law 339 = .ok (.aload_n 0, 1) := by decide +kernel
theorem dL_law_340 : decode cL_law 340 = .ok (.iload_n 3, 1) := by decide +kernel
theorem dL_law_341 : decode cL_law 341 = .ok (.iconst 2, 1) := by decide +kernel
theorem dL_law_342 : decode cL_law 342 = .ok (.iadd, 1) := by decide +kernel
theorem dL_law_343 : decode cL_law 343 = .ok (.iaload, 1) := by decide +kernel
theorem dL_law_344 : decode cL_law 344 = .ok (.ifCond .eq 7, 3) := by decide +kernel
theorem dL_law_347 : decode cL_law 347 = .ok (.iconst 1, 1) := by decide +kernel
theorem dL_law_348 : decode cL_law 348 = .ok (.goto 4, 3) := by decide +kernel
theorem dL_law_351 : decode cL_law 351 = .ok (.iconst 0, 1) := by decide +kernel
theorem dL_law_352 : decode cL_law 352 = .ok (.invokevirtual 30, 3) := by decide +kernel
theorem dL_law_355 : decode cL_law 355 = .ok (.if_icmp .eq 759, 3) := by decide +kernel
theorem dL_law_358 : decode cL_law 358 = .ok (.iconst 0, 1) := by decide +kernel
theorem dL_law_359 : decode cL_law 359 = .ok (.ireturn, 1) := by decide +kernel
theorem dL_law_360 : decode cL_law 360 = .ok (.aload_n 1, 1) := by decide +kernel
theorem dL_law_361 : decode cL_law 361 = .ok (.aload_n 0, 1) := by decide +kernel
theorem dL_law_362 : decode cL_law 362 = .ok (.iload_n 3, 1) := by decide +kernel
theorem dL_law_363 : decode cL_law 363 = .ok (.iconst 1, 1) := by decide +kernel
theorem dL_law_364 : decode cL_law 364 = .ok (.iadd, 1) := by decide +kernel
theorem dL_law_365 : decode cL_law 365 = .ok (.iaload, 1) := by decide +kernel
theorem dL_law_366 : decode cL_law 366 = .ok (.aload_n 0, 1) := by decide +kernel
theorem dL_law_367 : decode cL_law 367 = .ok (.iload_n 3, 1) := by decide +kernel
theorem dL_law_368 : decode cL_law 368 = .ok (.iconst 2, 1) := by decide +kernel
theorem dL_law_369 : decode cL_law 369 = .ok (.iadd, 1) := by decide +kernel
theorem dL_law_370 : decode cL_law 370 = .ok (.iaload, 1) := by decide +kernel
theorem dL_law_371 : decode cL_law 371 = .ok (.invokevirtual 31, 3) := by decide +kernel
theorem dL_law_374 : decode cL_law 374 = .ok (.aload_n 2, 1) := by decide +kernel
theorem dL_law_375 : decode cL_law 375 = .ok (.aload_n 0, 1) := by decide +kernel
theorem dL_law_376 : decode cL_law 376 = .ok (.iload_n 3, 1) := by decide +kernel
theorem dL_law_377 : decode cL_law 377 = .ok (.iconst 1, 1) := by decide +kernel
theorem dL_law_378 : decode cL_law 378 = .ok (.iadd, 1) := by decide +kernel
theorem dL_law_379 : decode cL_law 379 = .ok (.iaload, 1) := by decide +kernel
theorem dL_law_380 : decode cL_law 380 = .ok (.aload_n 0, 1) := by decide +kernel
theorem dL_law_381 : decode cL_law 381 = .ok (.iload_n 3, 1) := by decide +kernel
theorem dL_law_382 : decode cL_law 382 = .ok (.iconst 2, 1) := by decide +kernel
theorem dL_law_383 : decode cL_law 383 = .ok (.iadd, 1) := by decide +kernel
theorem dL_law_384 : decode cL_law 384 = .ok (.iaload, 1) := by decide +kernel
theorem dL_law_385 : decode cL_law 385 = .ok (.invokevirtual 35, 3) := by decide +kernel
theorem dL_law_388 : decode cL_law 388 = .ok (.if_icmp .eq 726, 3) := by decide +kernel
theorem dL_law_391 : decode cL_law 391 = .ok (.iconst 0, 1) := by decide +kernel
theorem dL_law_392 : decode cL_law 392 = .ok (.ireturn, 1) := by decide +kernel
theorem dL_law_393 : decode cL_law 393 = .ok (.aload_n 1, 1) := by decide +kernel
theorem dL_law_394 : decode cL_law 394 = .ok (.aload_n 0, 1) := by decide +kernel
theorem dL_law_395 : decode cL_law 395 = .ok (.iload_n 3, 1) := by decide +kernel
