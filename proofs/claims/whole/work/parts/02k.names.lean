theorem dX8_findCosts_135 : decode cX8_findCosts 135 = .ok (.iconst 3, 1) := by decide +kernel
theorem dX8_findCosts_136 : decode cX8_findCosts 136 = .ok (.iload 10, 2) := by decide +kernel
theorem dX8_findCosts_138 : decode cX8_findCosts 138 = .ok (.imul, 1) := by decide +kernel
theorem dX8_findCosts_139 : decode cX8_findCosts 139 = .ok (.iadd, 1) := by decide +kernel
theorem dX8_findCosts_140 : decode cX8_findCosts 140 = .ok (.iconst 2, 1) := by decide +kernel
theorem dX8_findCosts_141 : decode cX8_findCosts 141 = .ok (.iadd, 1) := by decide +kernel
theorem dX8_findCosts_142 : decode cX8_findCosts 142 = .ok (.iaload, 1) := by decide +kernel
theorem dX8_findCosts_143 : decode cX8_findCosts 143 = .ok (.i2l, 1) := by decide +kernel
theorem dX8_findCosts_144 : decode cX8_findCosts 144 = .ok (.lsub, 1) := by decide +kernel
theorem dX8_findCosts_145 : decode cX8_findCosts 145 = .ok (.lstore 13, 2) := by decide +kernel
theorem dX8_findCosts_147 : decode cX8_findCosts 147 = .ok (.aload_n 0, 1) := by decide +kernel
theorem dX8_findCosts_148 : decode cX8_findCosts 148 = .ok (.getfield 51, 3) := by decide +kernel
theorem dX8_findCosts_151 : decode cX8_findCosts 151 = .ok (.bipush 6, 2) := by decide +kernel
theorem dX8_findCosts_153 : decode cX8_findCosts 153 = .ok (.iload_n 1, 1) := by decide +kernel
theorem dX8_findCosts_154 : decode cX8_findCosts 154 = .ok (.imul, 1) := by decide +kernel
theorem dX8_findCosts_155 : decode cX8_findCosts 155 = .ok (.iload 10, 2) := by decide +kernel
theorem dX8_findCosts_157 : decode cX8_findCosts 157 = .ok (.iadd, 1) := by decide +kernel
theorem dX8_findCosts_158 : decode cX8_findCosts 158 = .ok (.aload_n 0, 1) := by decide +kernel
theorem dX8_findCosts_159 : decode cX8_findCosts 159 = .ok (.getfield 26, 3) := by decide +kernel
theorem dX8_findCosts_162 : decode cX8_findCosts 162 = .ok (.iconst 3, 1) := by decide +kernel
theorem dX8_findCosts_163 : decode cX8_findCosts 163 = .ok (.iload_n 1, 1) := by decide +kernel
theorem dX8_findCosts_164 : decode cX8_findCosts 164 = .ok (.imul, 1) := by decide +kernel
theorem dX8_findCosts_165 : decode cX8_findCosts 165 = .ok (.iaload, 1) := by decide +kernel
theorem dX8_findCosts_166 : decode cX8_findCosts 166 = .ok (.aload_n 0, 1) := by decide +kernel
theorem dX8_findCosts_167 : decode cX8_findCosts 167 = .ok (.getfield 26, 3) := by decide +kernel
theorem dX8_findCosts_170 : decode cX8_findCosts 170 = .ok (.bipush 18, 2) := by decide +kernel
theorem dX8_findCosts_172 : decode cX8_findCosts 172 = .ok (.iconst 3, 1) := by decide +kernel
theorem dX8_findCosts_173 : decode cX8_findCosts 173 = .ok (.iload 10, 2) := by decide +kernel
theorem dX8_findCosts_175 : decode cX8_findCosts 175 = .ok (.imul, 1) := by decide +kernel
theorem dX8_findCosts_176 : decode cX8_findCosts 176 = .ok (.iadd, 1) := by decide +kernel
theorem dX8_findCosts_177 : decode cX8_findCosts 177 = .ok (.iaload, 1) := by decide +kernel
theorem dX8_findCosts_178 : decode cX8_findCosts 178 = .ok (.if_icmp .ne 37, 3) := by decide +kernel
theorem dX8_findCosts_181 : decode cX8_findCosts 181 = .ok (.lload 11, 2) := by decide +kernel
theorem dX8_findCosts_183 : decode cX8_findCosts 183 = .ok (.lconst 0, 1) := by decide +kernel
theorem dX8_findCosts_184 : decode cX8_findCosts 184 = .ok (.lcmp, 1) := by decide +kernel
theorem dX8_findCosts_185 : decode cX8_findCosts 185 = .ok (.ifCond .ge 9, 3) := by decide +kernel
theorem dX8_findCosts_188 : decode cX8_findCosts 188 = .ok (.lload 11, 2) := by decide +kernel
theorem dX8_findCosts_190 : decode cX8_findCosts 190 = .ok (.lneg, 1) := by decide +kernel
theorem dX8_findCosts_191 : decode cX8_findCosts 191 = .ok (.goto 5, 3) := by decide +kernel
theorem dX8_findCosts_194 : decode cX8_findCosts 194 = .ok (.lload 11, 2) := by decide +kernel
theorem dX8_findCosts_196 : decode cX8_findCosts 196 = .ok (.lload 13, 2) := by decide +kernel
theorem dX8_findCosts_198 : decode cX8_findCosts 198 = .ok (.lconst 0, 1) := by decide +kernel
theorem dX8_findCosts_199 : decode cX8_findCosts 199 = .ok (.lcmp, 1) := by decide +kernel
theorem dX8_findCosts_200 : decode cX8_findCosts 200 = .ok (.ifCond .ge 9, 3) := by decide +kernel
theorem dX8_findCosts_203 : decode cX8_findCosts 203 = .ok (.lload 13, 2) := by decide +kernel
theorem dX8_findCosts_205 : decode cX8_findCosts 205 = .ok (.lneg, 1) := by decide +kernel
theorem dX8_findCosts_206 : decode cX8_findCosts 206 = .ok (.goto 5, 3) := by decide +kernel
theorem dX8_findCosts_209 : decode cX8_findCosts 209 = .ok (.lload 13, 2) := by decide +kernel
theorem dX8_findCosts_211 : decode cX8_findCosts 211 = .ok (.ladd, 1) := by decide +kernel
theorem dX8_findCosts_212 : decode cX8_findCosts 212 = .ok (.goto 6, 3) := by decide +kernel
theorem dX8_findCosts_215 : decode cX8_findCosts 215 = .ok (.ldc2_w 227, 3) := by decide +kernel
theorem dX8_findCosts_218 : decode cX8_findCosts 218 = .ok (.lastore, 1) := by decide +kernel
theorem dX8_findCosts_219 : decode cX8_findCosts 219 = .ok (.iinc 10 1, 3) := by decide +kernel
theorem dX8_findCosts_222 : decode cX8_findCosts 222 = .ok (.goto (-126), 3) := by decide +kernel
theorem dX8_findCosts_225 : decode cX8_findCosts 225 = .ok (.iinc 1 1, 3) := by decide +kernel
theorem dX8_findCosts_228 : decode cX8_findCosts 228 = .ok (.goto (-226), 3) := by decide +kernel
theorem dX8_findCosts_231 : decode cX8_findCosts 231 = .ok (.return_, 1) := by decide +kernel
theorem dX8_costOfChoice_0 : decode cX8_costOfChoice 0 = .ok (.lconst 0, 1) := by decide +kernel
theorem dX8_costOfChoice_1 : decode cX8_costOfChoice 1 = .ok (.lstore_n 1, 1) := by decide +kernel
theorem dX8_costOfChoice_2 : decode cX8_costOfChoice 2 = .ok (.iconst 0, 1) := by decide +kernel
theorem dX8_costOfChoice_3 : decode cX8_costOfChoice 3 = .ok (.istore_n 3, 1) := by decide +kernel
theorem dX8_costOfChoice_4 : decode cX8_costOfChoice 4 = .ok (.iconst 0, 1) := by decide +kernel
theorem dX8_costOfChoice_5 : decode cX8_costOfChoice 5 = .ok (.istore 4, 2) := by decide +kernel
theorem dX8_costOfChoice_7 : decode cX8_costOfChoice 7 = .ok (.iload 4, 2) := by decide +kernel
theorem dX8_costOfChoice_9 : decode cX8_costOfChoice 9 = .ok (.aload_n 0, 1) := by decide +kernel
theorem dX8_costOfChoice_10 : decode cX8_costOfChoice 10 = .ok (.getfield 23, 3) := by decide +kernel
theorem dX8_costOfChoice_13 : decode cX8_costOfChoice 13 = .ok (.iconst 0, 1) := by decide +kernel
theorem dX8_costOfChoice_14 : decode cX8_costOfChoice 14 = .ok (.iaload, 1) := by decide +kernel
theorem dX8_costOfChoice_15 : decode cX8_costOfChoice 15 = .ok (.if_icmp .ge 95, 3) := by decide +kernel
theorem dX8_costOfChoice_18 : decode cX8_costOfChoice 18 = .ok (.aload_n 0, 1) := by decide +kernel
theorem dX8_costOfChoice_19 : decode cX8_costOfChoice 19 = .ok (.getfield 55, 3) := by decide +kernel
theorem dX8_costOfChoice_22 : decode cX8_costOfChoice 22 = .ok (.iload 4, 2) := by decide +kernel
theorem dX8_costOfChoice_24 : decode cX8_costOfChoice 24 = .ok (.iaload, 1) := by decide +kernel
theorem dX8_costOfChoice_25 : decode cX8_costOfChoice 25 = .ok (.istore 5, 2) := by decide +kernel
theorem dX8_costOfChoice_27 : decode cX8_costOfChoice 27 = .ok (.iload 5, 2) := by decide +kernel
theorem dX8_costOfChoice_29 : decode cX8_costOfChoice 29 = .ok (.aload_n 0, 1) := by decide +kernel
theorem dX8_costOfChoice_30 : decode cX8_costOfChoice 30 = .ok (.getfield 23, 3) := by decide +kernel
theorem dX8_costOfChoice_33 : decode cX8_costOfChoice 33 = .ok (.iconst 1, 1) := by decide +kernel
theorem dX8_costOfChoice_34 : decode cX8_costOfChoice 34 = .ok (.iaload, 1) := by decide +kernel
theorem dX8_costOfChoice_35 : decode cX8_costOfChoice 35 = .ok (.if_icmp .ne 14, 3) := by decide +kernel
theorem dX8_costOfChoice_38 : decode cX8_costOfChoice 38 = .ok (.lload_n 1, 1) := by decide +kernel
theorem dX8_costOfChoice_39 : decode cX8_costOfChoice 39 = .ok (.aload_n 0, 1) := by decide +kernel
theorem dX8_costOfChoice_40 : decode cX8_costOfChoice 40 = .ok (.getfield 33, 3) := by decide +kernel
theorem dX8_costOfChoice_43 : decode cX8_costOfChoice 43 = .ok (.i2l, 1) := by decide +kernel
theorem dX8_costOfChoice_44 : decode cX8_costOfChoice 44 = .ok (.ladd, 1) := by decide +kernel
theorem dX8_costOfChoice_45 : decode cX8_costOfChoice 45 = .ok (.lstore_n 1, 1) := by decide +kernel
theorem dX8_costOfChoice_46 : decode cX8_costOfChoice 46 = .ok (.goto 58, 3) := by decide +kernel
theorem dX8_costOfChoice_49 : decode cX8_costOfChoice 49 = .ok (.aload_n 0, 1) := by decide +kernel
theorem dX8_costOfChoice_50 : decode cX8_costOfChoice 50 = .ok (.getfield 51, 3) := by decide +kernel
theorem dX8_costOfChoice_53 : decode cX8_costOfChoice 53 = .ok (.bipush 6, 2) := by decide +kernel
theorem dX8_costOfChoice_55 : decode cX8_costOfChoice 55 = .ok (.iload 4, 2) := by decide +kernel
theorem dX8_costOfChoice_57 : decode cX8_costOfChoice 57 = .ok (.imul, 1) := by decide +kernel
theorem dX8_costOfChoice_58 : decode cX8_costOfChoice 58 = .ok (.iload 5, 2) := by decide +kernel
theorem dX8_costOfChoice_60 : decode cX8_costOfChoice 60 = .ok (.iadd, 1) := by decide +kernel
theorem dX8_costOfChoice_61 : decode cX8_costOfChoice 61 = .ok (.laload, 1) := by decide +kernel
theorem dX8_costOfChoice_62 : decode cX8_costOfChoice 62 = .ok (.lconst 0, 1) := by decide +kernel
theorem dX8_costOfChoice_63 : decode cX8_costOfChoice 63 = .ok (.lcmp, 1) := by decide +kernel
theorem dX8_costOfChoice_64 : decode cX8_costOfChoice 64 = .ok (.ifCond .lt 13, 3) := by decide +kernel
theorem dX8_costOfChoice_67 : decode cX8_costOfChoice 67 = .ok (.iload_n 3, 1) := by decide +kernel
theorem dX8_costOfChoice_68 : decode cX8_costOfChoice 68 = .ok (.iload 5, 2) := by decide +kernel
theorem dX8_costOfChoice_70 : decode cX8_costOfChoice 70 = .ok (.ishr, 1) := by decide +kernel
theorem dX8_costOfChoice_71 : decode cX8_costOfChoice 71 = .ok (.iconst 1, 1) := by decide +kernel
theorem dX8_costOfChoice_72 : decode cX8_costOfChoice 72 = .ok (.iand, 1) := by decide +kernel
theorem dX8_costOfChoice_73 : decode cX8_costOfChoice 73 = .ok (.iconst 1, 1) := by decide +kernel
theorem dX8_costOfChoice_74 : decode cX8_costOfChoice 74 = .ok (.if_icmp .ne 7, 3) := by decide +kernel
theorem dX8_costOfChoice_77 : decode cX8_costOfChoice 77 = .ok (.ldc2_w 227, 3) := by decide +kernel
theorem dX8_costOfChoice_80 : decode cX8_costOfChoice 80 = .ok (.lreturn, 1) := by decide +kernel
theorem dX8_costOfChoice_81 : decode cX8_costOfChoice 81 = .ok (.iload_n 3, 1) := by decide +kernel
theorem dX8_costOfChoice_82 : decode cX8_costOfChoice 82 = .ok (.iconst 1, 1) := by decide +kernel
theorem dX8_costOfChoice_83 : decode cX8_costOfChoice 83 = .ok (.iload 5, 2) := by decide +kernel
theorem dX8_costOfChoice_85 : decode cX8_costOfChoice 85 = .ok (.ishl, 1) := by decide +kernel
theorem dX8_costOfChoice_86 : decode cX8_costOfChoice 86 = .ok (.ior, 1) := by decide +kernel
theorem dX8_costOfChoice_87 : decode cX8_costOfChoice 87 = .ok (.istore_n 3, 1) := by decide +kernel
theorem dX8_costOfChoice_88 : decode cX8_costOfChoice 88 = .ok (.lload_n 1, 1) := by decide +kernel
theorem dX8_costOfChoice_89 : decode cX8_costOfChoice 89 = .ok (.aload_n 0, 1) := by decide +kernel
theorem dX8_costOfChoice_90 : decode cX8_costOfChoice 90 = .ok (.getfield 51, 3) := by decide +kernel
theorem dX8_costOfChoice_93 : decode cX8_costOfChoice 93 = .ok (.bipush 6, 2) := by decide +kernel
theorem dX8_costOfChoice_95 : decode cX8_costOfChoice 95 = .ok (.iload 4, 2) := by decide +kernel
theorem dX8_costOfChoice_97 : decode cX8_costOfChoice 97 = .ok (.imul, 1) := by decide +kernel
theorem dX8_costOfChoice_98 : decode cX8_costOfChoice 98 = .ok (.iload 5, 2) := by decide +kernel
theorem dX8_costOfChoice_100 : decode cX8_costOfChoice 100 = .ok (.iadd, 1) := by decide +kernel
theorem dX8_costOfChoice_101 : decode cX8_costOfChoice 101 = .ok (.laload, 1) := by decide +kernel
theorem dX8_costOfChoice_102 : decode cX8_costOfChoice 102 = .ok (.ladd, 1) := by decide +kernel
theorem dX8_costOfChoice_103 : decode cX8_costOfChoice 103 = .ok (.lstore_n 1, 1) := by decide +kernel
theorem dX8_costOfChoice_104 : decode cX8_costOfChoice 104 = .ok (.iinc 4 1, 3) := by decide +kernel
theorem dX8_costOfChoice_107 : decode cX8_costOfChoice 107 = .ok (.goto (-100), 3) := by decide +kernel
theorem dX8_costOfChoice_110 : decode cX8_costOfChoice 110 = .ok (.lload_n 1, 1) := by decide +kernel
theorem dX8_costOfChoice_111 : decode cX8_costOfChoice 111 = .ok (.lreturn, 1) := by decide +kernel
set_option maxRecDepth 20000 in
theorem ggX8_findMatch_X8_counting : GoodIn wsX8_findMatch wsX8_counting := goodIn_r _ [10, 11, 12, 13, 73, 74, 75, 76, 77, 78, 79, 80, 81, 82, 83, 84, 85, 86, 87, 88, 89, 90, 91, 92, 93, 94, 95, 96, 97, 98, 99, 100, 101, 102, 103, 104, 105, 106, 107, 108] (by decide +kernel) (by decide +kernel)
set_option maxRecDepth 20000 in
theorem gX8_findMatch_X8_counting : GoodIn wsX8_findMatch (wsV RX8 153 RX8 yX8_counting wsX8_counting) := goodIn_app (goodIn_of _ (by decide +kernel)) ggX8_findMatch_X8_counting
set_option maxRecDepth 20000 in
theorem ggX8_findMatch_X8_fit : GoodIn wsX8_findMatch wsX8_fit := goodIn_r _ [17, 18, 19, 20, 9, 21, 22, 23, 24, 25, 26, 27, 28, 29, 30, 31, 32, 33, 34, 35, 36, 37, 38, 39, 40, 11, 41, 42, 43, 44, 45, 46, 47, 48, 49, 50, 51, 52, 53, 54, 55, 73, 74, 75, 76, 77, 78, 79, 80, 81, 82, 83, 84, 85, 86, 87, 88, 89, 90, 91, 92, 93, 94, 95, 96, 97, 98, 99, 100, 101, 102, 103, 104, 105, 106, 107, 108] (by decide +kernel) (by decide +kernel)
set_option maxRecDepth 20000 in
theorem gX8_findMatch_X8_fit : GoodIn wsX8_findMatch (wsV RX8 157 RX8 yX8_fit wsX8_fit) := goodIn_app (goodIn_of _ (by decide +kernel)) ggX8_findMatch_X8_fit
set_option maxRecDepth 20000 in
theorem ggX8_findMatch_X8_findCosts : GoodIn wsX8_findMatch wsX8_findCosts := goodIn_r _ [59, 5, 60, 22, 23, 24, 25, 26, 27, 28, 29, 61, 2, 62, 63, 9, 64, 34, 65, 66, 67, 73, 74, 75, 76, 77, 78, 79, 80, 81, 82, 83, 84, 85, 86, 87, 88, 89, 90, 91, 92, 93, 94, 95, 96, 97, 98, 99, 100, 101, 102, 103, 104, 105, 106, 107, 108] (by decide +kernel) (by decide +kernel)
set_option maxRecDepth 20000 in
theorem gX8_findMatch_X8_findCosts : GoodIn wsX8_findMatch (wsV RX8 229 RX8 yX8_findCosts wsX8_findCosts) := goodIn_app (goodIn_of _ (by decide +kernel)) ggX8_findMatch_X8_findCosts
set_option maxRecDepth 20000 in
theorem ggX8_findMatch_X8_costOfChoice : GoodIn wsX8_findMatch wsX8_costOfChoice := goodIn_r _ [71, 5, 1, 72, 61, 2, 73, 74, 75, 76, 77, 78, 79, 80, 81, 82, 83, 84, 85, 86, 87, 88, 89, 90, 91, 92, 93, 94, 95, 96, 97, 98, 99, 100, 101, 102, 103, 104, 105, 106, 107, 108] (by decide +kernel) (by decide +kernel)
set_option maxRecDepth 20000 in
theorem gX8_findMatch_X8_costOfChoice : GoodIn wsX8_findMatch (wsV RX8 235 RX8 yX8_costOfChoice wsX8_costOfChoice) := goodIn_app (goodIn_of _ (by decide +kernel)) ggX8_findMatch_X8_costOfChoice
theorem dX8_findMatch_0 : decode cX8_findMatch 0 = .ok (.aload_n 0, 1) := by decide +kernel
theorem dX8_findMatch_1 : decode cX8_findMatch 1 = .ok (.iload_n 1, 1) := by decide +kernel
theorem dX8_findMatch_2 : decode cX8_findMatch 2 = .ok (.aload_n 0, 1) := by decide +kernel
theorem dX8_findMatch_3 : decode cX8_findMatch 3 = .ok (.invokevirtual 153, 3) := by decide +kernel
theorem dX8_findMatch_6 : decode cX8_findMatch 6 = .ok (.invokevirtual 157, 3) := by decide +kernel
theorem dX8_findMatch_9 : decode cX8_findMatch 9 = .ok (.ifCond .ne 5, 3) := by decide +kernel
theorem dX8_findMatch_12 : decode cX8_findMatch 12 = .ok (.iconst 0, 1) := by decide +kernel
theorem dX8_findMatch_13 : decode cX8_findMatch 13 = .ok (.ireturn, 1) := by decide +kernel
theorem dX8_findMatch_14 : decode cX8_findMatch 14 = .ok (.aload_n 0, 1) := by decide +kernel
theorem dX8_findMatch_15 : decode cX8_findMatch 15 = .ok (.invokevirtual 229, 3) := by decide +kernel
theorem dX8_findMatch_18 : decode cX8_findMatch 18 = .ok (.iconst 0, 1) := by decide +kernel
theorem dX8_findMatch_19 : decode cX8_findMatch 19 = .ok (.istore_n 2, 1) := by decide +kernel
theorem dX8_findMatch_20 : decode cX8_findMatch 20 = .ok (.iload_n 2, 1) := by decide +kernel
theorem dX8_findMatch_21 : decode cX8_findMatch 21 = .ok (.bipush 6, 2) := by decide +kernel
theorem dX8_findMatch_23 : decode cX8_findMatch 23 = .ok (.if_icmp .ge 16, 3) := by decide +kernel
theorem dX8_findMatch_26 : decode cX8_findMatch 26 = .ok (.aload_n 0, 1) := by decide +kernel
theorem dX8_findMatch_27 : decode cX8_findMatch 27 = .ok (.getfield 55, 3) := by decide +kernel
theorem dX8_findMatch_30 : decode cX8_findMatch 30 = .ok (.iload_n 2, 1) := by decide +kernel
theorem dX8_findMatch_31 : decode cX8_findMatch 31 = .ok (.iconst 0, 1) := by decide +kernel
theorem dX8_findMatch_32 : decode cX8_findMatch 32 = .ok (.iastore, 1) := by decide +kernel
theorem dX8_findMatch_33 : decode cX8_findMatch 33 = .ok (.iinc 2 1, 3) := by decide +kernel
theorem dX8_findMatch_36 : decode cX8_findMatch 36 = .ok (.goto (-16), 3) := by decide +kernel
theorem dX8_findMatch_39 : decode cX8_findMatch 39 = .ok (.aload_n 0, 1) := by decide +kernel
theorem dX8_findMatch_40 : decode cX8_findMatch 40 = .ok (.ldc2_w 227, 3) := by decide +kernel
theorem dX8_findMatch_43 : decode cX8_findMatch 43 = .ok (.putfield 232, 3) := by decide +kernel
theorem dX8_findMatch_46 : decode cX8_findMatch 46 = .ok (.iconst 1, 1) := by decide +kernel
theorem dX8_findMatch_47 : decode cX8_findMatch 47 = .ok (.istore_n 2, 1) := by decide +kernel
theorem dX8_findMatch_48 : decode cX8_findMatch 48 = .ok (.iload_n 2, 1) := by decide +kernel
theorem dX8_findMatch_49 : decode cX8_findMatch 49 = .ok (.ifCond .eq 141, 3) := by decide +kernel
theorem dX8_findMatch_52 : decode cX8_findMatch 52 = .ok (.aload_n 0, 1) := by decide +kernel
theorem dX8_findMatch_53 : decode cX8_findMatch 53 = .ok (.invokevirtual 235, 3) := by decide +kernel
theorem dX8_findMatch_56 : decode cX8_findMatch 56 = .ok (.lstore_n 3, 1) := by decide +kernel
theorem dX8_findMatch_57 : decode cX8_findMatch 57 = .ok (.lload_n 3, 1) := by decide +kernel
theorem dX8_findMatch_58 : decode cX8_findMatch 58 = .ok (.lconst 0, 1) := by decide +kernel
theorem dX8_findMatch_59 : decode cX8_findMatch 59 = .ok (.lcmp, 1) := by decide +kernel
theorem dX8_findMatch_60 : decode cX8_findMatch 60 = .ok (.ifCond .lt 56, 3) := by decide +kernel
theorem dX8_findMatch_63 : decode cX8_findMatch 63 = .ok (.aload_n 0, 1) := by decide +kernel
theorem dX8_findMatch_64 : decode cX8_findMatch 64 = .ok (.getfield 232, 3) := by decide +kernel
theorem dX8_findMatch_67 : decode cX8_findMatch 67 = .ok (.lconst 0, 1) := by decide +kernel
theorem dX8_findMatch_68 : decode cX8_findMatch 68 = .ok (.lcmp, 1) := by decide +kernel
theorem dX8_findMatch_69 : decode cX8_findMatch 69 = .ok (.ifCond .lt 12, 3) := by decide +kernel
theorem dX8_findMatch_72 : decode cX8_findMatch 72 = .ok (.lload_n 3, 1) := by decide +kernel
theorem dX8_findMatch_73 : decode cX8_findMatch 73 = .ok (.aload_n 0, 1) := by decide +kernel
theorem dX8_findMatch_74 : decode cX8_findMatch 74 = .ok (.getfield 232, 3) := by decide +kernel
theorem dX8_findMatch_77 : decode cX8_findMatch 77 = .ok (.lcmp, 1) := by decide +kernel
theorem dX8_findMatch_78 : decode cX8_findMatch 78 = .ok (.ifCond .ge 38, 3) := by decide +kernel
theorem dX8_findMatch_81 : decode cX8_findMatch 81 = .ok (.aload_n 0, 1) := by decide +kernel
theorem dX8_findMatch_82 : decode cX8_findMatch 82 = .ok (.lload_n 3, 1) := by decide +kernel
theorem dX8_findMatch_83 : decode cX8_findMatch 83 = .ok (.putfield 232, 3) := by decide +kernel
theorem dX8_findMatch_86 : decode cX8_findMatch 86 = .ok (.iconst 0, 1) := by decide +kernel
theorem dX8_findMatch_87 : decode cX8_findMatch 87 = .ok (.istore 5, 2) := by decide +kernel
theorem dX8_findMatch_89 : decode cX8_findMatch 89 = .ok (.iload 5, 2) := by decide +kernel
theorem dX8_findMatch_91 : decode cX8_findMatch 91 = .ok (.bipush 6, 2) := by decide +kernel
theorem dX8_findMatch_93 : decode cX8_findMatch 93 = .ok (.if_icmp .ge 23, 3) := by decide +kernel
theorem dX8_findMatch_96 : decode cX8_findMatch 96 = .ok (.aload_n 0, 1) := by decide +kernel
theorem dX8_findMatch_97 : decode cX8_findMatch 97 = .ok (.getfield 58, 3) := by decide +kernel
theorem dX8_findMatch_100 : decode cX8_findMatch 100 = .ok (.iload 5, 2) := by decide +kernel
theorem dX8_findMatch_102 : decode cX8_findMatch 102 = .ok (.aload_n 0, 1) := by decide +kernel
theorem dX8_findMatch_103 : decode cX8_findMatch 103 = .ok (.getfield 55, 3) := by decide +kernel
theorem dX8_findMatch_106 : decode cX8_findMatch 106 = .ok (.iload 5, 2) := by decide +kernel
theorem dX8_findMatch_108 : decode cX8_findMatch 108 = .ok (.iaload, 1) := by decide +kernel
theorem dX8_findMatch_109 : decode cX8_findMatch 109 = .ok (.iastore, 1) := by decide +kernel
theorem dX8_findMatch_110 : decode cX8_findMatch 110 = .ok (.iinc 5 1, 3) := by decide +kernel
theorem dX8_findMatch_113 : decode cX8_findMatch 113 = .ok (.goto (-24), 3) := by decide +kernel
theorem dX8_findMatch_116 : decode cX8_findMatch 116 = .ok (.aload_n 0, 1) := by decide +kernel
theorem dX8_findMatch_117 : decode cX8_findMatch 117 = .ok (.getfield 23, 3) := by decide +kernel
theorem dX8_findMatch_120 : decode cX8_findMatch 120 = .ok (.iconst 0, 1) := by decide +kernel
theorem dX8_findMatch_121 : decode cX8_findMatch 121 = .ok (.iaload, 1) := by decide +kernel
theorem dX8_findMatch_122 : decode cX8_findMatch 122 = .ok (.iconst 1, 1) := by decide +kernel
theorem dX8_findMatch_123 : decode cX8_findMatch 123 = .ok (.isub, 1) := by decide +kernel
theorem dX8_findMatch_124 : decode cX8_findMatch 124 = .ok (.istore 5, 2) := by decide +kernel
theorem dX8_findMatch_126 : decode cX8_findMatch 126 = .ok (.iload 5, 2) := by decide +kernel
theorem dX8_findMatch_128 : decode cX8_findMatch 128 = .ok (.ifCond .lt 33, 3) := by decide +kernel
theorem dX8_findMatch_131 : decode cX8_findMatch 131 = .ok (.aload_n 0, 1) := by decide +kernel
theorem dX8_findMatch_132 : decode cX8_findMatch 132 = .ok (.getfield 55, 3) := by decide +kernel
theorem dX8_findMatch_135 : decode cX8_findMatch 135 = .ok (.iload 5, 2) := by decide +kernel
theorem dX8_findMatch_137 : decode cX8_findMatch 137 = .ok (.iaload, 1) := by decide +kernel
theorem dX8_findMatch_138 : decode cX8_findMatch 138 = .ok (.aload_n 0, 1) := by decide +kernel
theorem dX8_findMatch_139 : decode cX8_findMatch 139 = .ok (.getfield 23, 3) := by decide +kernel
theorem dX8_findMatch_142 : decode cX8_findMatch 142 = .ok (.iconst 1, 1) := by decide +kernel
theorem dX8_findMatch_143 : decode cX8_findMatch 143 = .ok (.iaload, 1) := by decide +kernel
theorem dX8_findMatch_144 : decode cX8_findMatch 144 = .ok (.if_icmp .ne 17, 3) := by decide +kernel
theorem dX8_findMatch_147 : decode cX8_findMatch 147 = .ok (.aload_n 0, 1) := by decide +kernel
theorem dX8_findMatch_148 : decode cX8_findMatch 148 = .ok (.getfield 55, 3) := by decide +kernel
theorem dX8_findMatch_151 : decode cX8_findMatch 151 = .ok (.iload 5, 2) := by decide +kernel
theorem dX8_findMatch_153 : decode cX8_findMatch 153 = .ok (.iconst 0, 1) := by decide +kernel
theorem dX8_findMatch_154 : decode cX8_findMatch 154 = .ok (.iastore, 1) := by decide +kernel
theorem dX8_findMatch_155 : decode cX8_findMatch 155 = .ok (.iinc 5 (-1), 3) := by decide +kernel
theorem dX8_findMatch_158 : decode cX8_findMatch 158 = .ok (.goto (-32), 3) := by decide +kernel
theorem dX8_findMatch_161 : decode cX8_findMatch 161 = .ok (.iload 5, 2) := by decide +kernel
theorem dX8_findMatch_163 : decode cX8_findMatch 163 = .ok (.ifCond .lt 7, 3) := by decide +kernel
theorem dX8_findMatch_166 : decode cX8_findMatch 166 = .ok (.iconst 1, 1) := by decide +kernel
theorem dX8_findMatch_167 : decode cX8_findMatch 167 = .ok (.goto 4, 3) := by decide +kernel
theorem dX8_findMatch_170 : decode cX8_findMatch 170 = .ok (.iconst 0, 1) := by decide +kernel
theorem dX8_findMatch_171 : decode cX8_findMatch 171 = .ok (.istore_n 2, 1) := by decide +kernel
theorem dX8_findMatch_172 : decode cX8_findMatch 172 = .ok (.iload_n 2, 1) := by decide +kernel
theorem dX8_findMatch_173 : decode cX8_findMatch 173 = .ok (.ifCond .eq 14, 3) := by decide +kernel
theorem dX8_findMatch_176 : decode cX8_findMatch 176 = .ok (.aload_n 0, 1) := by decide +kernel
theorem dX8_findMatch_177 : decode cX8_findMatch 177 = .ok (.getfield 55, 3) := by decide +kernel
theorem dX8_findMatch_180 : decode cX8_findMatch 180 = .ok (.iload 5, 2) := by decide +kernel
theorem dX8_findMatch_182 : decode cX8_findMatch 182 = .ok (.dup2, 1) := by decide +kernel
theorem dX8_findMatch_183 : decode cX8_findMatch 183 = .ok (.iaload, 1) := by decide +kernel
theorem dX8_findMatch_184 : decode cX8_findMatch 184 = .ok (.iconst 1, 1) := by decide +kernel
theorem dX8_findMatch_185 : decode cX8_findMatch 185 = .ok (.iadd, 1) := by decide +kernel
theorem dX8_findMatch_186 : decode cX8_findMatch 186 = .ok (.iastore, 1) := by decide +kernel
theorem dX8_findMatch_187 : decode cX8_findMatch 187 = .ok (.goto (-139), 3) := by decide +kernel
theorem dX8_findMatch_190 : decode cX8_findMatch 190 = .ok (.iconst 1, 1) := by decide +kernel
theorem dX8_findMatch_191 : decode cX8_findMatch 191 = .ok (.ireturn, 1) := by decide +kernel
set_option maxRecDepth 20000 in
theorem ggX8_match_X8_isKind : GoodIn wsX8_match wsX8_isKind := goodIn_r _ [6, 7, 8, 5, 9] (by decide +kernel) (by decide +kernel)
set_option maxRecDepth 20000 in
theorem gX8_match_X8_isKind : GoodIn wsX8_match (va_wsS RX8 150 yX8_isKind wsX8_isKind) := goodIn_app (goodIn_of _ (by decide +kernel)) ggX8_match_X8_isKind
set_option maxRecDepth 20000 in
theorem ggX8_match_X8_in : GoodIn wsX8_match wsX8_in := goodIn_r _ [9] (by decide +kernel) (by decide +kernel)
set_option maxRecDepth 20000 in
theorem gX8_match_X8_in : GoodIn wsX8_match (va_wsS RX8 61 yX8_in wsX8_in) := goodIn_app (goodIn_of _ (by decide +kernel)) ggX8_match_X8_in
set_option maxRecDepth 20000 in
theorem ggX8_match_X8_findMatch : GoodIn wsX8_match wsX8_findMatch := goodIn_r _ [13, 14, 15, 16, 2, 1, 17, 18, 19, 5, 20, 21, 22, 23, 24, 25, 26, 27, 28, 29, 30, 31, 32, 33, 34, 35, 36, 37, 38, 39, 40, 41, 42, 43, 44, 45, 46, 47, 48, 49, 50, 51, 52, 53, 54, 55, 56, 57, 58, 59, 60, 61, 62, 63, 64, 65, 66, 67, 68, 69, 70, 71, 72, 73, 74, 75, 76, 77, 78, 79, 80, 81, 82, 83, 84, 85, 86, 87, 88, 89, 90, 91, 92, 93, 94, 95, 96, 97, 98, 99, 100, 101, 102, 103, 104, 105, 106, 107, 108, 109, 110, 111, 112, 113, 114, 115, 116, 117, 118] (by decide +kernel) (by decide +kernel)
set_option maxRecDepth 20000 in
theorem gX8_match_X8_findMatch : GoodIn wsX8_match (wsV RX8 239 RX8 yX8_findMatch wsX8_findMatch) := goodIn_app (goodIn_of _ (by decide +kernel)) ggX8_match_X8_findMatch
theorem dX8_match_0 : decode cX8_match 0 = .ok (.iload_n 1, 1) := by decide +kernel
theorem dX8_match_1 : decode cX8_match 1 = .ok (.invokestatic 150, 3) := by decide +kernel
theorem dX8_match_4 : decode cX8_match 4 = .ok (.ifCond .eq 19, 3) := by decide +kernel
theorem dX8_match_7 : decode cX8_match 7 = .ok (.iload_n 2, 1) := by decide +kernel
theorem dX8_match_8 : decode cX8_match 8 = .ok (.iconst 0, 1) := by decide +kernel
theorem dX8_match_9 : decode cX8_match 9 = .ok (.aload_n 0, 1) := by decide +kernel
theorem dX8_match_10 : decode cX8_match 10 = .ok (.getfield 23, 3) := by decide +kernel
theorem dX8_match_13 : decode cX8_match 13 = .ok (.iconst 0, 1) := by decide +kernel
theorem dX8_match_14 : decode cX8_match 14 = .ok (.iaload, 1) := by decide +kernel
theorem dX8_match_15 : decode cX8_match 15 = .ok (.iconst 1, 1) := by decide +kernel
theorem dX8_match_16 : decode cX8_match 16 = .ok (.isub, 1) := by decide +kernel
theorem dX8_match_17 : decode cX8_match 17 = .ok (.invokestatic 61, 3) := by decide +kernel
theorem dX8_match_20 : decode cX8_match 20 = .ok (.ifCond .ne 5, 3) := by decide +kernel
theorem dX8_match_23 : decode cX8_match 23 = .ok (.iconst (-1), 1) := by decide +kernel
theorem dX8_match_24 : decode cX8_match 24 = .ok (.ireturn, 1) := by decide +kernel
theorem dX8_match_25 : decode cX8_match 25 = .ok (.aload_n 0, 1) := by decide +kernel
theorem dX8_match_26 : decode cX8_match 26 = .ok (.iload_n 1, 1) := by decide +kernel
theorem dX8_match_27 : decode cX8_match 27 = .ok (.invokevirtual 239, 3) := by decide +kernel
theorem dX8_match_30 : decode cX8_match 30 = .ok (.ifCond .ne 6, 3) := by decide +kernel
theorem dX8_match_33 : decode cX8_match 33 = .ok (.bipush (-3), 2) := by decide +kernel
theorem dX8_match_35 : decode cX8_match 35 = .ok (.ireturn, 1) := by decide +kernel
theorem dX8_match_36 : decode cX8_match 36 = .ok (.aload_n 0, 1) := by decide +kernel
theorem dX8_match_37 : decode cX8_match 37 = .ok (.getfield 58, 3) := by decide +kernel
theorem dX8_match_40 : decode cX8_match 40 = .ok (.iload_n 2, 1) := by decide +kernel
theorem dX8_match_41 : decode cX8_match 41 = .ok (.iaload, 1) := by decide +kernel
theorem dX8_match_42 : decode cX8_match 42 = .ok (.aload_n 0, 1) := by decide +kernel
theorem dX8_match_43 : decode cX8_match 43 = .ok (.getfield 23, 3) := by decide +kernel
theorem dX8_match_46 : decode cX8_match 46 = .ok (.iconst 1, 1) := by decide +kernel
theorem dX8_match_47 : decode cX8_match 47 = .ok (.iaload, 1) := by decide +kernel
theorem dX8_match_48 : decode cX8_match 48 = .ok (.if_icmp .ge 12, 3) := by decide +kernel
theorem dX8_match_51 : decode cX8_match 51 = .ok (.aload_n 0, 1) := by decide +kernel
theorem dX8_match_52 : decode cX8_match 52 = .ok (.getfield 58, 3) := by decide +kernel
theorem dX8_match_55 : decode cX8_match 55 = .ok (.iload_n 2, 1) := by decide +kernel
theorem dX8_match_56 : decode cX8_match 56 = .ok (.iaload, 1) := by decide +kernel
theorem dX8_match_57 : decode cX8_match 57 = .ok (.goto 5, 3) := by decide +kernel
theorem dX8_match_60 : decode cX8_match 60 = .ok (.bipush (-5), 2) := by decide +kernel
theorem dX8_match_62 : decode cX8_match 62 = .ok (.ireturn, 1) := by decide +kernel
set_option maxRecDepth 20000 in
theorem ggX8_cost_X8_isKind : GoodIn wsX8_cost wsX8_isKind := goodIn_r _ [5, 6, 7, 4, 8] (by decide +kernel) (by decide +kernel)
set_option maxRecDepth 20000 in
theorem gX8_cost_X8_isKind : GoodIn wsX8_cost (va_wsS RX8 150 yX8_isKind wsX8_isKind) := goodIn_app (goodIn_of _ (by decide +kernel)) ggX8_cost_X8_isKind
set_option maxRecDepth 20000 in
theorem ggX8_cost_X8_findMatch : GoodIn wsX8_cost wsX8_findMatch := goodIn_r _ [12, 13, 14, 1, 15, 16, 17, 18, 19, 4, 20, 21, 22, 23, 24, 25, 26, 27, 28, 29, 30, 31, 32, 33, 34, 35, 36, 37, 38, 39, 40, 41, 42, 43, 44, 45, 46, 47, 48, 49, 50, 51, 52, 53, 54, 55, 56, 57, 58, 59, 60, 61, 62, 63, 64, 65, 66, 67, 68, 69, 70, 71, 72, 73, 74, 75, 76, 77, 78, 79, 80, 81, 82, 83, 84, 85, 86, 87, 88, 89, 90, 91, 92, 93, 94, 95, 96, 97, 98, 99, 100, 101, 102, 103, 104, 105, 106, 107, 108, 109, 110, 111, 112, 113, 114, 115, 116, 117, 118] (by decide +kernel) (by decide +kernel)
set_option maxRecDepth 20000 in
theorem gX8_cost_X8_findMatch : GoodIn wsX8_cost (wsV RX8 239 RX8 yX8_findMatch wsX8_findMatch) := goodIn_app (goodIn_of _ (by decide +kernel)) ggX8_cost_X8_findMatch
theorem dX8_cost_0 : decode cX8_cost 0 = .ok (.iload_n 1, 1) := by decide +kernel
theorem dX8_cost_1 : decode cX8_cost 1 = .ok (.invokestatic 150, 3) := by decide +kernel
theorem dX8_cost_4 : decode cX8_cost 4 = .ok (.ifCond .ne 5, 3) := by decide +kernel
theorem dX8_cost_7 : decode cX8_cost 7 = .ok (.iconst (-1), 1) := by decide +kernel
theorem dX8_cost_8 : decode cX8_cost 8 = .ok (.ireturn, 1) := by decide +kernel
theorem dX8_cost_9 : decode cX8_cost 9 = .ok (.aload_n 0, 1) := by decide +kernel
theorem dX8_cost_10 : decode cX8_cost 10 = .ok (.iload_n 1, 1) := by decide +kernel
theorem dX8_cost_11 : decode cX8_cost 11 = .ok (.invokevirtual 239, 3) := by decide +kernel
theorem dX8_cost_14 : decode cX8_cost 14 = .ok (.ifCond .eq 11, 3) := by decide +kernel
theorem dX8_cost_17 : decode cX8_cost 17 = .ok (.aload_n 0, 1) := by decide +kernel
theorem dX8_cost_18 : decode cX8_cost 18 = .ok (.getfield 232, 3) := by decide +kernel
theorem dX8_cost_21 : decode cX8_cost 21 = .ok (.l2i, 1) := by decide +kernel
theorem dX8_cost_22 : decode cX8_cost 22 = .ok (.goto 5, 3) := by decide +kernel
theorem dX8_cost_25 : decode cX8_cost 25 = .ok (.bipush (-3), 2) := by decide +kernel
theorem dX8_cost_27 : decode cX8_cost 27 = .ok (.ireturn, 1) := by decide +kernel
set_option maxRecDepth 20000 in
theorem ggX8_left_X8_isKind : GoodIn wsX8_left wsX8_isKind := goodIn_r _ [6, 7, 8, 5, 9] (by decide +kernel) (by decide +kernel)
set_option maxRecDepth 20000 in
theorem gX8_left_X8_isKind : GoodIn wsX8_left (va_wsS RX8 150 yX8_isKind wsX8_isKind) := goodIn_app (goodIn_of _ (by decide +kernel)) ggX8_left_X8_isKind
set_option maxRecDepth 20000 in
theorem ggX8_left_X8_findMatch : GoodIn wsX8_left wsX8_findMatch := goodIn_r _ [13, 14, 15, 16, 2, 1, 17, 18, 19, 5, 20, 21, 22, 23, 24, 25, 26, 27, 28, 29, 30, 31, 32, 33, 34, 35, 36, 37, 38, 39, 40, 41, 42, 43, 44, 45, 46, 47, 48, 49, 50, 51, 52, 53, 54, 55, 56, 57, 58, 59, 60, 61, 62, 63, 64, 65, 66, 67, 68, 69, 70, 71, 72, 73, 74, 75, 76, 77, 78, 79, 80, 81, 82, 83, 84, 85, 86, 87, 88, 89, 90, 91, 92, 93, 94, 95, 96, 97, 98, 99, 100, 101, 102, 103, 104, 105, 106, 107, 108, 109, 110, 111, 112, 113, 114, 115, 116, 117, 118] (by decide +kernel) (by decide +kernel)
set_option maxRecDepth 20000 in
theorem gX8_left_X8_findMatch : GoodIn wsX8_left (wsV RX8 239 RX8 yX8_findMatch wsX8_findMatch) := goodIn_app (goodIn_of _ (by decide +kernel)) ggX8_left_X8_findMatch
theorem dX8_left_0 : decode cX8_left 0 = .ok (.iload_n 1, 1) := by decide +kernel
theorem dX8_left_1 : decode cX8_left 1 = .ok (.invokestatic 150, 3) := by decide +kernel
theorem dX8_left_4 : decode cX8_left 4 = .ok (.ifCond .ne 5, 3) := by decide +kernel
theorem dX8_left_7 : decode cX8_left 7 = .ok (.iconst (-1), 1) := by decide +kernel
theorem dX8_left_8 : decode cX8_left 8 = .ok (.ireturn, 1) := by decide +kernel
theorem dX8_left_9 : decode cX8_left 9 = .ok (.aload_n 0, 1) := by decide +kernel
theorem dX8_left_10 : decode cX8_left 10 = .ok (.iload_n 1, 1) := by decide +kernel
theorem dX8_left_11 : decode cX8_left 11 = .ok (.invokevirtual 239, 3) := by decide +kernel
theorem dX8_left_14 : decode cX8_left 14 = .ok (.ifCond .ne 6, 3) := by decide +kernel
theorem dX8_left_17 : decode cX8_left 17 = .ok (.bipush (-3), 2) := by decide +kernel
theorem dX8_left_19 : decode cX8_left 19 = .ok (.ireturn, 1) := by decide +kernel
theorem dX8_left_20 : decode cX8_left 20 = .ok (.iconst 0, 1) := by decide +kernel
theorem dX8_left_21 : decode cX8_left 21 = .ok (.istore_n 2, 1) := by decide +kernel
theorem dX8_left_22 : decode cX8_left 22 = .ok (.iconst 0, 1) := by decide +kernel
theorem dX8_left_23 : decode cX8_left 23 = .ok (.istore_n 3, 1) := by decide +kernel
theorem dX8_left_24 : decode cX8_left 24 = .ok (.iload_n 3, 1) := by decide +kernel
theorem dX8_left_25 : decode cX8_left 25 = .ok (.aload_n 0, 1) := by decide +kernel
theorem dX8_left_26 : decode cX8_left 26 = .ok (.getfield 23, 3) := by decide +kernel
theorem dX8_left_29 : decode cX8_left 29 = .ok (.iconst 0, 1) := by decide +kernel
theorem dX8_left_30 : decode cX8_left 30 = .ok (.iaload, 1) := by decide +kernel
theorem dX8_left_31 : decode cX8_left 31 = .ok (.if_icmp .ge 20, 3) := by decide +kernel
theorem dX8_left_34 : decode cX8_left 34 = .ok (.iload_n 2, 1) := by decide +kernel
theorem dX8_left_35 : decode cX8_left 35 = .ok (.iconst 1, 1) := by decide +kernel
theorem dX8_left_36 : decode cX8_left 36 = .ok (.aload_n 0, 1) := by decide +kernel
theorem dX8_left_37 : decode cX8_left 37 = .ok (.getfield 58, 3) := by decide +kernel
theorem dX8_left_40 : decode cX8_left 40 = .ok (.iload_n 3, 1) := by decide +kernel
theorem dX8_left_41 : decode cX8_left 41 = .ok (.iaload, 1) := by decide +kernel
theorem dX8_left_42 : decode cX8_left 42 = .ok (.ishl, 1) := by decide +kernel
theorem dX8_left_43 : decode cX8_left 43 = .ok (.ior, 1) := by decide +kernel
theorem dX8_left_44 : decode cX8_left 44 = .ok (.istore_n 2, 1) := by decide +kernel
theorem dX8_left_45 : decode cX8_left 45 = .ok (.iinc 3 1, 3) := by decide +kernel
theorem dX8_left_48 : decode cX8_left 48 = .ok (.goto (-24), 3) := by decide +kernel
theorem dX8_left_51 : decode cX8_left 51 = .ok (.iconst 0, 1) := by decide +kernel
theorem dX8_left_52 : decode cX8_left 52 = .ok (.istore_n 3, 1) := by decide +kernel
theorem dX8_left_53 : decode cX8_left 53 = .ok (.iload_n 3, 1) := by decide +kernel
theorem dX8_left_54 : decode cX8_left 54 = .ok (.aload_n 0, 1) := by decide +kernel
theorem dX8_left_55 : decode cX8_left 55 = .ok (.getfield 23, 3) := by decide +kernel
theorem dX8_left_58 : decode cX8_left 58 = .ok (.iconst 1, 1) := by decide +kernel
theorem dX8_left_59 : decode cX8_left 59 = .ok (.iaload, 1) := by decide +kernel
theorem dX8_left_60 : decode cX8_left 60 = .ok (.if_icmp .ge 19, 3) := by decide +kernel
theorem dX8_left_63 : decode cX8_left 63 = .ok (.iload_n 2, 1) := by decide +kernel
theorem dX8_left_64 : decode cX8_left 64 = .ok (.iload_n 3, 1) := by decide +kernel
theorem dX8_left_65 : decode cX8_left 65 = .ok (.ishr, 1) := by decide +kernel
theorem dX8_left_66 : decode cX8_left 66 = .ok (.iconst 1, 1) := by decide +kernel
theorem dX8_left_67 : decode cX8_left 67 = .ok (.iand, 1) := by decide +kernel
theorem dX8_left_68 : decode cX8_left 68 = .ok (.ifCond .ne 5, 3) := by decide +kernel
theorem dX8_left_71 : decode cX8_left 71 = .ok (.iload_n 3, 1) := by decide +kernel
theorem dX8_left_72 : decode cX8_left 72 = .ok (.ireturn, 1) := by decide +kernel
theorem dX8_left_73 : decode cX8_left 73 = .ok (.iinc 3 1, 3) := by decide +kernel
theorem dX8_left_76 : decode cX8_left 76 = .ok (.goto (-23), 3) := by decide +kernel
theorem dX8_left_79 : decode cX8_left 79 = .ok (.bipush (-5), 2) := by decide +kernel
theorem dX8_left_81 : decode cX8_left 81 = .ok (.ireturn, 1) := by decide +kernel
set_option maxRecDepth 20000 in
theorem ggX8_inState_X8_stateOf : GoodIn wsX8_inState wsX8_stateOf := goodIn_r _ [6, 7, 8, 9, 5, 10, 11, 12, 13, 14, 15, 16, 17, 18, 19, 20, 21, 22, 23, 24, 25, 26, 27, 28, 29, 30, 31, 32, 33, 34, 35, 36, 37, 38, 39, 40, 41, 42, 43, 44, 45, 46, 47, 48, 49, 50, 51, 52, 53, 54, 55, 56, 57, 58, 59, 60, 61, 62, 63] (by decide +kernel) (by decide +kernel)
set_option maxRecDepth 20000 in
theorem gX8_inState_X8_stateOf : GoodIn wsX8_inState (wsV RX8 208 RX8 yX8_stateOf wsX8_stateOf) := goodIn_app (goodIn_of _ (by decide +kernel)) ggX8_inState_X8_stateOf
theorem dX8_inState_0 : decode cX8_inState 0 = .ok (.iconst 0, 1) := by decide +kernel
theorem dX8_inState_1 : decode cX8_inState 1 = .ok (.istore_n 2, 1) := by decide +kernel
theorem dX8_inState_2 : decode cX8_inState 2 = .ok (.iconst 0, 1) := by decide +kernel
theorem dX8_inState_3 : decode cX8_inState 3 = .ok (.istore_n 3, 1) := by decide +kernel
theorem dX8_inState_4 : decode cX8_inState 4 = .ok (.iload_n 3, 1) := by decide +kernel
theorem dX8_inState_5 : decode cX8_inState 5 = .ok (.aload_n 0, 1) := by decide +kernel
theorem dX8_inState_6 : decode cX8_inState 6 = .ok (.getfield 183, 3) := by decide +kernel
theorem dX8_inState_9 : decode cX8_inState 9 = .ok (.if_icmp .ge 26, 3) := by decide +kernel
theorem dX8_inState_12 : decode cX8_inState 12 = .ok (.iload_n 2, 1) := by decide +kernel
theorem dX8_inState_13 : decode cX8_inState 13 = .ok (.aload_n 0, 1) := by decide +kernel
theorem dX8_inState_14 : decode cX8_inState 14 = .ok (.iload_n 3, 1) := by decide +kernel
theorem dX8_inState_15 : decode cX8_inState 15 = .ok (.invokevirtual 208, 3) := by decide +kernel
theorem dX8_inState_18 : decode cX8_inState 18 = .ok (.iload_n 1, 1) := by decide +kernel
theorem dX8_inState_19 : decode cX8_inState 19 = .ok (.if_icmp .ne 7, 3) := by decide +kernel
theorem dX8_inState_22 : decode cX8_inState 22 = .ok (.iconst 1, 1) := by decide +kernel
theorem dX8_inState_23 : decode cX8_inState 23 = .ok (.goto 4, 3) := by decide +kernel
theorem dX8_inState_26 : decode cX8_inState 26 = .ok (.iconst 0, 1) := by decide +kernel
theorem dX8_inState_27 : decode cX8_inState 27 = .ok (.iadd, 1) := by decide +kernel
theorem dX8_inState_28 : decode cX8_inState 28 = .ok (.istore_n 2, 1) := by decide +kernel
theorem dX8_inState_29 : decode cX8_inState 29 = .ok (.iinc 3 1, 3) := by decide +kernel
theorem dX8_inState_32 : decode cX8_inState 32 = .ok (.goto (-28), 3) := by decide +kernel
theorem dX8_inState_35 : decode cX8_inState 35 = .ok (.iload_n 2, 1) := by decide +kernel
theorem dX8_inState_36 : decode cX8_inState 36 = .ok (.ireturn, 1) := by decide +kernel
set_option maxRecDepth 20000 in
theorem ggX8_meetings_X8_isFlat : GoodIn wsX8_meetings wsX8_isFlat := goodIn_r _ [6, 7, 8, 9, 5, 10, 11, 12, 13, 14, 15, 16, 17, 18, 19, 20, 21, 22, 23, 32, 33, 34, 35, 36, 37, 38, 39, 40, 41, 42, 43, 44, 45, 46, 47, 48, 49, 50, 51, 52, 53, 54, 55, 56, 57, 58, 59, 60, 61, 62, 63, 64, 65, 66, 67] (by decide +kernel) (by decide +kernel)
set_option maxRecDepth 20000 in
theorem gX8_meetings_X8_isFlat : GoodIn wsX8_meetings (wsV RX8 202 RX8 yX8_isFlat wsX8_isFlat) := goodIn_app (goodIn_of _ (by decide +kernel)) ggX8_meetings_X8_isFlat
set_option maxRecDepth 20000 in
theorem ggX8_meetings_X8_doMeet : GoodIn wsX8_meetings wsX8_doMeet := goodIn_r _ [27, 28, 29, 30, 5, 31, 7, 8, 9, 10, 11, 12, 13, 14, 15, 16, 17, 18, 19, 20, 21, 22, 23, 32, 33, 34, 35, 36, 37, 38, 39, 40, 41, 42, 43, 44, 45, 46, 47, 48, 49, 50, 51, 52, 53, 54, 55, 56, 57, 58, 59, 60, 61, 62, 63, 64, 65, 66, 67] (by decide +kernel) (by decide +kernel)
set_option maxRecDepth 20000 in
theorem gX8_meetings_X8_doMeet : GoodIn wsX8_meetings (wsV RX8 218 RX8 yX8_doMeet wsX8_doMeet) := goodIn_app (goodIn_of _ (by decide +kernel)) ggX8_meetings_X8_doMeet
theorem dX8_meetings_0 : decode cX8_meetings 0 = .ok (.iconst 0, 1) := by decide +kernel
theorem dX8_meetings_1 : decode cX8_meetings 1 = .ok (.istore_n 2, 1) := by decide +kernel
theorem dX8_meetings_2 : decode cX8_meetings 2 = .ok (.iconst 0, 1) := by decide +kernel
theorem dX8_meetings_3 : decode cX8_meetings 3 = .ok (.istore_n 3, 1) := by decide +kernel
theorem dX8_meetings_4 : decode cX8_meetings 4 = .ok (.iload_n 3, 1) := by decide +kernel
theorem dX8_meetings_5 : decode cX8_meetings 5 = .ok (.aload_n 0, 1) := by decide +kernel
theorem dX8_meetings_6 : decode cX8_meetings 6 = .ok (.getfield 183, 3) := by decide +kernel
theorem dX8_meetings_9 : decode cX8_meetings 9 = .ok (.if_icmp .ge 60, 3) := by decide +kernel
theorem dX8_meetings_12 : decode cX8_meetings 12 = .ok (.iconst 0, 1) := by decide +kernel
theorem dX8_meetings_13 : decode cX8_meetings 13 = .ok (.istore 4, 2) := by decide +kernel
theorem dX8_meetings_15 : decode cX8_meetings 15 = .ok (.iload 4, 2) := by decide +kernel
theorem dX8_meetings_17 : decode cX8_meetings 17 = .ok (.iload_n 3, 1) := by decide +kernel
theorem dX8_meetings_18 : decode cX8_meetings 18 = .ok (.if_icmp .ge 45, 3) := by decide +kernel
theorem dX8_meetings_21 : decode cX8_meetings 21 = .ok (.iload_n 2, 1) := by decide +kernel
theorem dX8_meetings_22 : decode cX8_meetings 22 = .ok (.aload_n 0, 1) := by decide +kernel
theorem dX8_meetings_23 : decode cX8_meetings 23 = .ok (.iload_n 3, 1) := by decide +kernel
theorem dX8_meetings_24 : decode cX8_meetings 24 = .ok (.invokevirtual 202, 3) := by decide +kernel
theorem dX8_meetings_27 : decode cX8_meetings 27 = .ok (.ifCond .ne 27, 3) := by decide +kernel
theorem dX8_meetings_30 : decode cX8_meetings 30 = .ok (.aload_n 0, 1) := by decide +kernel
theorem dX8_meetings_31 : decode cX8_meetings 31 = .ok (.iload 4, 2) := by decide +kernel
theorem dX8_meetings_33 : decode cX8_meetings 33 = .ok (.invokevirtual 202, 3) := by decide +kernel
theorem dX8_meetings_36 : decode cX8_meetings 36 = .ok (.ifCond .ne 18, 3) := by decide +kernel
theorem dX8_meetings_39 : decode cX8_meetings 39 = .ok (.aload_n 0, 1) := by decide +kernel
theorem dX8_meetings_40 : decode cX8_meetings 40 = .ok (.iload_n 3, 1) := by decide +kernel
theorem dX8_meetings_41 : decode cX8_meetings 41 = .ok (.iload 4, 2) := by decide +kernel
theorem dX8_meetings_43 : decode cX8_meetings 43 = .ok (.iload_n 1, 1) := by decide +kernel
theorem dX8_meetings_44 : decode cX8_meetings 44 = .ok (.invokevirtual 218, 3) := by decide +kernel
theorem dX8_meetings_47 : decode cX8_meetings 47 = .ok (.ifCond .eq 7, 3) := by decide +kernel
theorem dX8_meetings_50 : decode cX8_meetings 50 = .ok (.iconst 1, 1) := by decide +kernel
theorem dX8_meetings_51 : decode cX8_meetings 51 = .ok (.goto 4, 3) := by decide +kernel
theorem dX8_meetings_54 : decode cX8_meetings 54 = .ok (.iconst 0, 1) := by decide +kernel
theorem dX8_meetings_55 : decode cX8_meetings 55 = .ok (.iadd, 1) := by decide +kernel
theorem dX8_meetings_56 : decode cX8_meetings 56 = .ok (.istore_n 2, 1) := by decide +kernel
theorem dX8_meetings_57 : decode cX8_meetings 57 = .ok (.iinc 4 1, 3) := by decide +kernel
theorem dX8_meetings_60 : decode cX8_meetings 60 = .ok (.goto (-45), 3) := by decide +kernel
theorem dX8_meetings_63 : decode cX8_meetings 63 = .ok (.iinc 3 1, 3) := by decide +kernel
theorem dX8_meetings_66 : decode cX8_meetings 66 = .ok (.goto (-62), 3) := by decide +kernel
theorem dX8_meetings_69 : decode cX8_meetings 69 = .ok (.iload_n 2, 1) := by decide +kernel
theorem dX8_meetings_70 : decode cX8_meetings 70 = .ok (.ireturn, 1) := by decide +kernel
set_option maxRecDepth 20000 in
theorem ggX8_many_X8_counting : GoodIn wsX8_many wsX8_counting := goodIn_r _ [8, 1, 9, 10, 55, 56, 57, 58, 59, 60, 61, 62, 63, 64, 65, 66, 67, 68, 69, 70, 71, 72, 73, 74, 75, 76, 77, 78, 79, 80, 81, 82, 83, 84, 85, 86, 87, 88, 89, 90] (by decide +kernel) (by decide +kernel)
set_option maxRecDepth 20000 in
theorem gX8_many_X8_counting : GoodIn wsX8_many (wsV RX8 153 RX8 yX8_counting wsX8_counting) := goodIn_app (goodIn_of _ (by decide +kernel)) ggX8_many_X8_counting
set_option maxRecDepth 20000 in
theorem ggX8_many_X8_manyOf : GoodIn wsX8_many wsX8_manyOf := goodIn_r _ [13] (by decide +kernel) (by decide +kernel)
set_option maxRecDepth 20000 in
theorem gX8_many_X8_manyOf : GoodIn wsX8_many (va_wsS RX8 177 yX8_manyOf wsX8_manyOf) := goodIn_app (goodIn_of _ (by decide +kernel)) ggX8_many_X8_manyOf
set_option maxRecDepth 20000 in
theorem ggX8_many_X8_inState : GoodIn wsX8_many wsX8_inState := goodIn_r _ [17, 2, 18, 19, 20, 7, 21, 22, 23, 24, 25, 26, 27, 28, 29, 30, 31, 32, 33, 34, 35, 36, 37, 38, 39, 40, 41, 42, 55, 56, 57, 58, 59, 60, 61, 62, 63, 64, 65, 66, 67, 68, 69, 70, 71, 72, 73, 74, 75, 76, 77, 78, 79, 80, 81, 82, 83, 84, 85, 86, 87, 88, 89, 90] (by decide +kernel) (by decide +kernel)
set_option maxRecDepth 20000 in
theorem gX8_many_X8_inState : GoodIn wsX8_many (wsV RX8 242 RX8 yX8_inState wsX8_inState) := goodIn_app (goodIn_of _ (by decide +kernel)) ggX8_many_X8_inState
set_option maxRecDepth 20000 in
theorem ggX8_many_X8_meetings : GoodIn wsX8_many wsX8_meetings := goodIn_r _ [46, 2, 22, 23, 24, 7, 25, 26, 27, 28, 29, 30, 31, 32, 33, 34, 35, 36, 37, 38, 39, 40, 41, 42, 47, 48, 49, 50, 51, 52, 53, 54, 55, 56, 57, 58, 59, 60, 61, 62, 63, 64, 65, 66, 67, 68, 69, 70, 71, 72, 73, 74, 75, 76, 77, 78, 79, 80, 81, 82, 83, 84, 85, 86, 87, 88, 89, 90] (by decide +kernel) (by decide +kernel)
set_option maxRecDepth 20000 in
theorem gX8_many_X8_meetings : GoodIn wsX8_many (wsV RX8 245 RX8 yX8_meetings wsX8_meetings) := goodIn_app (goodIn_of _ (by decide +kernel)) ggX8_many_X8_meetings
theorem dX8_many_0 : decode cX8_many 0 = .ok (.iload_n 1, 1) := by decide +kernel
theorem dX8_many_1 : decode cX8_many 1 = .ok (.tableswitch 107 0 8 #[51, 56, 64, 69, 75, 81, 88, 95, 101], 51) := by decide +kernel
theorem dX8_many_52 : decode cX8_many 52 = .ok (.aload_n 0, 1) := by decide +kernel
theorem dX8_many_53 : decode cX8_many 53 = .ok (.getfield 65, 3) := by decide +kernel
theorem dX8_many_56 : decode cX8_many 56 = .ok (.ireturn, 1) := by decide +kernel
theorem dX8_many_57 : decode cX8_many 57 = .ok (.aload_n 0, 1) := by decide +kernel
theorem dX8_many_58 : decode cX8_many 58 = .ok (.invokevirtual 153, 3) := by decide +kernel
theorem dX8_many_61 : decode cX8_many 61 = .ok (.invokestatic 177, 3) := by decide +kernel
theorem dX8_many_64 : decode cX8_many 64 = .ok (.ireturn, 1) := by decide +kernel
theorem dX8_many_65 : decode cX8_many 65 = .ok (.aload_n 0, 1) := by decide +kernel
theorem dX8_many_66 : decode cX8_many 66 = .ok (.getfield 183, 3) := by decide +kernel
theorem dX8_many_69 : decode cX8_many 69 = .ok (.ireturn, 1) := by decide +kernel
theorem dX8_many_70 : decode cX8_many 70 = .ok (.aload_n 0, 1) := by decide +kernel
theorem dX8_many_71 : decode cX8_many 71 = .ok (.iconst 1, 1) := by decide +kernel
theorem dX8_many_72 : decode cX8_many 72 = .ok (.invokevirtual 242, 3) := by decide +kernel
theorem dX8_many_75 : decode cX8_many 75 = .ok (.ireturn, 1) := by decide +kernel
theorem dX8_many_76 : decode cX8_many 76 = .ok (.aload_n 0, 1) := by decide +kernel
theorem dX8_many_77 : decode cX8_many 77 = .ok (.iconst 2, 1) := by decide +kernel
theorem dX8_many_78 : decode cX8_many 78 = .ok (.invokevirtual 242, 3) := by decide +kernel
theorem dX8_many_81 : decode cX8_many 81 = .ok (.ireturn, 1) := by decide +kernel
theorem dX8_many_82 : decode cX8_many 82 = .ok (.aload_n 0, 1) := by decide +kernel
theorem dX8_many_83 : decode cX8_many 83 = .ok (.getfield 23, 3) := by decide +kernel
theorem dX8_many_86 : decode cX8_many 86 = .ok (.iconst 0, 1) := by decide +kernel
theorem dX8_many_87 : decode cX8_many 87 = .ok (.iaload, 1) := by decide +kernel
theorem dX8_many_88 : decode cX8_many 88 = .ok (.ireturn, 1) := by decide +kernel
theorem dX8_many_89 : decode cX8_many 89 = .ok (.aload_n 0, 1) := by decide +kernel
theorem dX8_many_90 : decode cX8_many 90 = .ok (.getfield 23, 3) := by decide +kernel
theorem dX8_many_93 : decode cX8_many 93 = .ok (.iconst 1, 1) := by decide +kernel
theorem dX8_many_94 : decode cX8_many 94 = .ok (.iaload, 1) := by decide +kernel
theorem dX8_many_95 : decode cX8_many 95 = .ok (.ireturn, 1) := by decide +kernel
theorem dX8_many_96 : decode cX8_many 96 = .ok (.aload_n 0, 1) := by decide +kernel
theorem dX8_many_97 : decode cX8_many 97 = .ok (.iconst 0, 1) := by decide +kernel
theorem dX8_many_98 : decode cX8_many 98 = .ok (.invokevirtual 245, 3) := by decide +kernel
theorem dX8_many_101 : decode cX8_many 101 = .ok (.ireturn, 1) := by decide +kernel
theorem dX8_many_102 : decode cX8_many 102 = .ok (.aload_n 0, 1) := by decide +kernel
theorem dX8_many_103 : decode cX8_many 103 = .ok (.iconst 1, 1) := by decide +kernel
theorem dX8_many_104 : decode cX8_many 104 = .ok (.invokevirtual 245, 3) := by decide +kernel
theorem dX8_many_107 : decode cX8_many 107 = .ok (.ireturn, 1) := by decide +kernel
theorem dX8_many_108 : decode cX8_many 108 = .ok (.iconst (-1), 1) := by decide +kernel
theorem dX8_many_109 : decode cX8_many 109 = .ok (.ireturn, 1) := by decide +kernel
theorem dX8_copy_0 : decode cX8_copy 0 = .ok (.iconst 0, 1) := by decide +kernel
theorem dX8_copy_1 : decode cX8_copy 1 = .ok (.istore_n 2, 1) := by decide +kernel
theorem dX8_copy_2 : decode cX8_copy 2 = .ok (.iload_n 2, 1) := by decide +kernel
theorem dX8_copy_3 : decode cX8_copy 3 = .ok (.aload_n 0, 1) := by decide +kernel
theorem dX8_copy_4 : decode cX8_copy 4 = .ok (.arraylength, 1) := by decide +kernel
theorem dX8_copy_5 : decode cX8_copy 5 = .ok (.if_icmp .ge 15, 3) := by decide +kernel
theorem dX8_copy_8 : decode cX8_copy 8 = .ok (.aload_n 1, 1) := by decide +kernel
theorem dX8_copy_9 : decode cX8_copy 9 = .ok (.iload_n 2, 1) := by decide +kernel
theorem dX8_copy_10 : decode cX8_copy 10 = .ok (.aload_n 0, 1) := by decide +kernel
theorem dX8_copy_11 : decode cX8_copy 11 = .ok (.iload_n 2, 1) := by decide +kernel
theorem dX8_copy_12 : decode cX8_copy 12 = .ok (.iaload, 1) := by decide +kernel
theorem dX8_copy_13 : decode cX8_copy 13 = .ok (.iastore, 1) := by decide +kernel
theorem dX8_copy_14 : decode cX8_copy 14 = .ok (.iinc 2 1, 3) := by decide +kernel
theorem dX8_copy_17 : decode cX8_copy 17 = .ok (.goto (-15), 3) := by decide +kernel
theorem dX8_copy_20 : decode cX8_copy 20 = .ok (.return_, 1) := by decide +kernel
set_option maxRecDepth 20000 in
theorem ggX8_keep_X8_copy : GoodIn wsX8_keep wsX8_copy := goodIn_r _ [18] (by decide +kernel) (by decide +kernel)
set_option maxRecDepth 20000 in
theorem gX8_keep_X8_copy : GoodIn wsX8_keep (va_wsS RX8 252 yX8_copy wsX8_copy) := goodIn_app (goodIn_of _ (by decide +kernel)) ggX8_keep_X8_copy
theorem dX8_keep_0 : decode cX8_keep 0 = .ok (.aload_n 0, 1) := by decide +kernel
theorem dX8_keep_1 : decode cX8_keep 1 = .ok (.iconst 1, 1) := by decide +kernel
theorem dX8_keep_2 : decode cX8_keep 2 = .ok (.putfield 248, 3) := by decide +kernel
theorem dX8_keep_5 : decode cX8_keep 5 = .ok (.aload_n 0, 1) := by decide +kernel
theorem dX8_keep_6 : decode cX8_keep 6 = .ok (.getfield 36, 3) := by decide +kernel
theorem dX8_keep_9 : decode cX8_keep 9 = .ok (.iconst 0, 1) := by decide +kernel
theorem dX8_keep_10 : decode cX8_keep 10 = .ok (.aload_n 0, 1) := by decide +kernel
theorem dX8_keep_11 : decode cX8_keep 11 = .ok (.getfield 65, 3) := by decide +kernel
theorem dX8_keep_14 : decode cX8_keep 14 = .ok (.iastore, 1) := by decide +kernel
theorem dX8_keep_15 : decode cX8_keep 15 = .ok (.aload_n 0, 1) := by decide +kernel
theorem dX8_keep_16 : decode cX8_keep 16 = .ok (.getfield 36, 3) := by decide +kernel
theorem dX8_keep_19 : decode cX8_keep 19 = .ok (.iconst 1, 1) := by decide +kernel
theorem dX8_keep_20 : decode cX8_keep 20 = .ok (.aload_n 0, 1) := by decide +kernel
theorem dX8_keep_21 : decode cX8_keep 21 = .ok (.getfield 183, 3) := by decide +kernel
theorem dX8_keep_24 : decode cX8_keep 24 = .ok (.iastore, 1) := by decide +kernel
theorem dX8_keep_25 : decode cX8_keep 25 = .ok (.aload_n 0, 1) := by decide +kernel
theorem dX8_keep_26 : decode cX8_keep 26 = .ok (.getfield 36, 3) := by decide +kernel
theorem dX8_keep_29 : decode cX8_keep 29 = .ok (.iconst 2, 1) := by decide +kernel
theorem dX8_keep_30 : decode cX8_keep 30 = .ok (.aload_n 0, 1) := by decide +kernel
theorem dX8_keep_31 : decode cX8_keep 31 = .ok (.getfield 23, 3) := by decide +kernel
theorem dX8_keep_34 : decode cX8_keep 34 = .ok (.iconst 0, 1) := by decide +kernel
theorem dX8_keep_35 : decode cX8_keep 35 = .ok (.iaload, 1) := by decide +kernel
theorem dX8_keep_36 : decode cX8_keep 36 = .ok (.iastore, 1) := by decide +kernel
theorem dX8_keep_37 : decode cX8_keep 37 = .ok (.aload_n 0, 1) := by decide +kernel
theorem dX8_keep_38 : decode cX8_keep 38 = .ok (.getfield 36, 3) := by decide +kernel
theorem dX8_keep_41 : decode cX8_keep 41 = .ok (.iconst 3, 1) := by decide +kernel
theorem dX8_keep_42 : decode cX8_keep 42 = .ok (.aload_n 0, 1) := by decide +kernel
theorem dX8_keep_43 : decode cX8_keep 43 = .ok (.getfield 23, 3) := by decide +kernel
theorem dX8_keep_46 : decode cX8_keep 46 = .ok (.iconst 1, 1) := by decide +kernel
theorem dX8_keep_47 : decode cX8_keep 47 = .ok (.iaload, 1) := by decide +kernel
theorem dX8_keep_48 : decode cX8_keep 48 = .ok (.iastore, 1) := by decide +kernel
theorem dX8_keep_49 : decode cX8_keep 49 = .ok (.aload_n 0, 1) := by decide +kernel
theorem dX8_keep_50 : decode cX8_keep 50 = .ok (.getfield 7, 3) := by decide +kernel
theorem dX8_keep_53 : decode cX8_keep 53 = .ok (.aload_n 0, 1) := by decide +kernel
theorem dX8_keep_54 : decode cX8_keep 54 = .ok (.getfield 39, 3) := by decide +kernel
theorem dX8_keep_57 : decode cX8_keep 57 = .ok (.invokestatic 252, 3) := by decide +kernel
theorem dX8_keep_60 : decode cX8_keep 60 = .ok (.aload_n 0, 1) := by decide +kernel
theorem dX8_keep_61 : decode cX8_keep 61 = .ok (.getfield 20, 3) := by decide +kernel
theorem dX8_keep_64 : decode cX8_keep 64 = .ok (.aload_n 0, 1) := by decide +kernel
theorem dX8_keep_65 : decode cX8_keep 65 = .ok (.getfield 45, 3) := by decide +kernel
theorem dX8_keep_68 : decode cX8_keep 68 = .ok (.invokestatic 252, 3) := by decide +kernel
theorem dX8_keep_71 : decode cX8_keep 71 = .ok (.aload_n 0, 1) := by decide +kernel
theorem dX8_keep_72 : decode cX8_keep 72 = .ok (.getfield 26, 3) := by decide +kernel
theorem dX8_keep_75 : decode cX8_keep 75 = .ok (.aload_n 0, 1) := by decide +kernel
theorem dX8_keep_76 : decode cX8_keep 76 = .ok (.getfield 48, 3) := by decide +kernel
theorem dX8_keep_79 : decode cX8_keep 79 = .ok (.invokestatic 252, 3) := by decide +kernel
theorem dX8_keep_82 : decode cX8_keep 82 = .ok (.iconst 0, 1) := by decide +kernel
theorem dX8_keep_83 : decode cX8_keep 83 = .ok (.istore_n 1, 1) := by decide +kernel
theorem dX8_keep_84 : decode cX8_keep 84 = .ok (.iload_n 1, 1) := by decide +kernel
theorem dX8_keep_85 : decode cX8_keep 85 = .ok (.bipush 12, 2) := by decide +kernel
theorem dX8_keep_87 : decode cX8_keep 87 = .ok (.if_icmp .ge 44, 3) := by decide +kernel
theorem dX8_keep_90 : decode cX8_keep 90 = .ok (.aload_n 0, 1) := by decide +kernel
theorem dX8_keep_91 : decode cX8_keep 91 = .ok (.getfield 42, 3) := by decide +kernel
theorem dX8_keep_94 : decode cX8_keep 94 = .ok (.iload_n 1, 1) := by decide +kernel
theorem dX8_keep_95 : decode cX8_keep 95 = .ok (.aload_n 0, 1) := by decide +kernel
theorem dX8_keep_96 : decode cX8_keep 96 = .ok (.getfield 13, 3) := by decide +kernel
theorem dX8_keep_99 : decode cX8_keep 99 = .ok (.iload_n 1, 1) := by decide +kernel
theorem dX8_keep_100 : decode cX8_keep 100 = .ok (.baload, 1) := by decide +kernel
theorem dX8_keep_101 : decode cX8_keep 101 = .ok (.ifCond .eq 7, 3) := by decide +kernel
theorem dX8_keep_104 : decode cX8_keep 104 = .ok (.iconst 1, 1) := by decide +kernel
theorem dX8_keep_105 : decode cX8_keep 105 = .ok (.goto 4, 3) := by decide +kernel
theorem dX8_keep_108 : decode cX8_keep 108 = .ok (.iconst 0, 1) := by decide +kernel
theorem dX8_keep_109 : decode cX8_keep 109 = .ok (.aload_n 0, 1) := by decide +kernel
theorem dX8_keep_110 : decode cX8_keep 110 = .ok (.getfield 17, 3) := by decide +kernel
theorem dX8_keep_113 : decode cX8_keep 113 = .ok (.iload_n 1, 1) := by decide +kernel
theorem dX8_keep_114 : decode cX8_keep 114 = .ok (.baload, 1) := by decide +kernel
theorem dX8_keep_115 : decode cX8_keep 115 = .ok (.ifCond .eq 7, 3) := by decide +kernel
theorem dX8_keep_118 : decode cX8_keep 118 = .ok (.iconst 2, 1) := by decide +kernel
theorem dX8_keep_119 : decode cX8_keep 119 = .ok (.goto 4, 3) := by decide +kernel
theorem dX8_keep_122 : decode cX8_keep 122 = .ok (.iconst 0, 1) := by decide +kernel
theorem dX8_keep_123 : decode cX8_keep 123 = .ok (.iadd, 1) := by decide +kernel
theorem dX8_keep_124 : decode cX8_keep 124 = .ok (.iastore, 1) := by decide +kernel
theorem dX8_keep_125 : decode cX8_keep 125 = .ok (.iinc 1 1, 3) := by decide +kernel
theorem dX8_keep_128 : decode cX8_keep 128 = .ok (.goto (-44), 3) := by decide +kernel
theorem dX8_keep_131 : decode cX8_keep 131 = .ok (.iconst 1, 1) := by decide +kernel
theorem dX8_keep_132 : decode cX8_keep 132 = .ok (.ireturn, 1) := by decide +kernel
set_option maxRecDepth 20000 in
theorem ggX8_back_X8_copy : GoodIn wsX8_back wsX8_copy := goodIn_r _ [18] (by decide +kernel) (by decide +kernel)
set_option maxRecDepth 20000 in
theorem gX8_back_X8_copy : GoodIn wsX8_back (va_wsS RX8 252 yX8_copy wsX8_copy) := goodIn_app (goodIn_of _ (by decide +kernel)) ggX8_back_X8_copy
theorem dX8_back_0 : decode cX8_back 0 = .ok (.aload_n 0, 1) := by decide +kernel
theorem dX8_back_1 : decode cX8_back 1 = .ok (.getfield 248, 3) := by decide +kernel
theorem dX8_back_4 : decode cX8_back 4 = .ok (.ifCond .ne 6, 3) := by decide +kernel
theorem dX8_back_7 : decode cX8_back 7 = .ok (.bipush (-5), 2) := by decide +kernel
theorem dX8_back_9 : decode cX8_back 9 = .ok (.ireturn, 1) := by decide +kernel
theorem dX8_back_10 : decode cX8_back 10 = .ok (.aload_n 0, 1) := by decide +kernel
theorem dX8_back_11 : decode cX8_back 11 = .ok (.aload_n 0, 1) := by decide +kernel
theorem dX8_back_12 : decode cX8_back 12 = .ok (.getfield 36, 3) := by decide +kernel
theorem dX8_back_15 : decode cX8_back 15 = .ok (.iconst 0, 1) := by decide +kernel
theorem dX8_back_16 : decode cX8_back 16 = .ok (.iaload, 1) := by decide +kernel
theorem dX8_back_17 : decode cX8_back 17 = .ok (.putfield 65, 3) := by decide +kernel
theorem dX8_back_20 : decode cX8_back 20 = .ok (.aload_n 0, 1) := by decide +kernel
theorem dX8_back_21 : decode cX8_back 21 = .ok (.aload_n 0, 1) := by decide +kernel
theorem dX8_back_22 : decode cX8_back 22 = .ok (.getfield 36, 3) := by decide +kernel
theorem dX8_back_25 : decode cX8_back 25 = .ok (.iconst 1, 1) := by decide +kernel
theorem dX8_back_26 : decode cX8_back 26 = .ok (.iaload, 1) := by decide +kernel
theorem dX8_back_27 : decode cX8_back 27 = .ok (.putfield 183, 3) := by decide +kernel
theorem dX8_back_30 : decode cX8_back 30 = .ok (.aload_n 0, 1) := by decide +kernel
theorem dX8_back_31 : decode cX8_back 31 = .ok (.getfield 23, 3) := by decide +kernel
theorem dX8_back_34 : decode cX8_back 34 = .ok (.iconst 0, 1) := by decide +kernel
theorem dX8_back_35 : decode cX8_back 35 = .ok (.aload_n 0, 1) := by decide +kernel
theorem dX8_back_36 : decode cX8_back 36 = .ok (.getfield 36, 3) := by decide +kernel
theorem dX8_back_39 : decode cX8_back 39 = .ok (.iconst 2, 1) := by decide +kernel
theorem dX8_back_40 : decode cX8_back 40 = .ok (.iaload, 1) := by decide +kernel
theorem dX8_back_41 : decode cX8_back 41 = .ok (.iastore, 1) := by decide +kernel
theorem dX8_back_42 : decode cX8_back 42 = .ok (.aload_n 0, 1) := by decide +kernel
theorem dX8_back_43 : decode cX8_back 43 = .ok (.getfield 23, 3) := by decide +kernel
theorem dX8_back_46 : decode cX8_back 46 = .ok (.iconst 1, 1) := by decide +kernel
theorem dX8_back_47 : decode cX8_back 47 = .ok (.aload_n 0, 1) := by decide +kernel
theorem dX8_back_48 : decode cX8_back 48 = .ok (.getfield 36, 3) := by decide +kernel
theorem dX8_back_51 : decode cX8_back 51 = .ok (.iconst 3, 1) := by decide +kernel
theorem dX8_back_52 : decode cX8_back 52 = .ok (.iaload, 1) := by decide +kernel
theorem dX8_back_53 : decode cX8_back 53 = .ok (.iastore, 1) := by decide +kernel
theorem dX8_back_54 : decode cX8_back 54 = .ok (.aload_n 0, 1) := by decide +kernel
theorem dX8_back_55 : decode cX8_back 55 = .ok (.getfield 39, 3) := by decide +kernel
theorem dX8_back_58 : decode cX8_back 58 = .ok (.aload_n 0, 1) := by decide +kernel
theorem dX8_back_59 : decode cX8_back 59 = .ok (.getfield 7, 3) := by decide +kernel
theorem dX8_back_62 : decode cX8_back 62 = .ok (.invokestatic 252, 3) := by decide +kernel
theorem dX8_back_65 : decode cX8_back 65 = .ok (.aload_n 0, 1) := by decide +kernel
theorem dX8_back_66 : decode cX8_back 66 = .ok (.getfield 45, 3) := by decide +kernel
theorem dX8_back_69 : decode cX8_back 69 = .ok (.aload_n 0, 1) := by decide +kernel
theorem dX8_back_70 : decode cX8_back 70 = .ok (.getfield 20, 3) := by decide +kernel
theorem dX8_back_73 : decode cX8_back 73 = .ok (.invokestatic 252, 3) := by decide +kernel
theorem dX8_back_76 : decode cX8_back 76 = .ok (.aload_n 0, 1) := by decide +kernel
theorem dX8_back_77 : decode cX8_back 77 = .ok (.getfield 48, 3) := by decide +kernel
theorem dX8_back_80 : decode cX8_back 80 = .ok (.aload_n 0, 1) := by decide +kernel
theorem dX8_back_81 : decode cX8_back 81 = .ok (.getfield 26, 3) := by decide +kernel
theorem dX8_back_84 : decode cX8_back 84 = .ok (.invokestatic 252, 3) := by decide +kernel
theorem dX8_back_87 : decode cX8_back 87 = .ok (.iconst 0, 1) := by decide +kernel
theorem dX8_back_88 : decode cX8_back 88 = .ok (.istore_n 1, 1) := by decide +kernel
theorem dX8_back_89 : decode cX8_back 89 = .ok (.iload_n 1, 1) := by decide +kernel
theorem dX8_back_90 : decode cX8_back 90 = .ok (.bipush 12, 2) := by decide +kernel
theorem dX8_back_92 : decode cX8_back 92 = .ok (.if_icmp .ge 53, 3) := by decide +kernel
theorem dX8_back_95 : decode cX8_back 95 = .ok (.aload_n 0, 1) := by decide +kernel
theorem dX8_back_96 : decode cX8_back 96 = .ok (.getfield 13, 3) := by decide +kernel
theorem dX8_back_99 : decode cX8_back 99 = .ok (.iload_n 1, 1) := by decide +kernel
theorem dX8_back_100 : decode cX8_back 100 = .ok (.aload_n 0, 1) := by decide +kernel
theorem dX8_back_101 : decode cX8_back 101 = .ok (.getfield 42, 3) := by decide +kernel
theorem dX8_back_104 : decode cX8_back 104 = .ok (.iload_n 1, 1) := by decide +kernel
theorem dX8_back_105 : decode cX8_back 105 = .ok (.iaload, 1) := by decide +kernel
theorem dX8_back_106 : decode cX8_back 106 = .ok (.iconst 2, 1) := by decide +kernel
theorem dX8_back_107 : decode cX8_back 107 = .ok (.irem, 1) := by decide +kernel
theorem dX8_back_108 : decode cX8_back 108 = .ok (.iconst 1, 1) := by decide +kernel
theorem dX8_back_109 : decode cX8_back 109 = .ok (.if_icmp .ne 7, 3) := by decide +kernel
theorem dX8_back_112 : decode cX8_back 112 = .ok (.iconst 1, 1) := by decide +kernel
theorem dX8_back_113 : decode cX8_back 113 = .ok (.goto 4, 3) := by decide +kernel
theorem dX8_back_116 : decode cX8_back 116 = .ok (.iconst 0, 1) := by decide +kernel
theorem dX8_back_117 : decode cX8_back 117 = .ok (.bastore, 1) := by decide +kernel
theorem dX8_back_118 : decode cX8_back 118 = .ok (.aload_n 0, 1) := by decide +kernel
theorem dX8_back_119 : decode cX8_back 119 = .ok (.getfield 17, 3) := by decide +kernel
theorem dX8_back_122 : decode cX8_back 122 = .ok (.iload_n 1, 1) := by decide +kernel
theorem dX8_back_123 : decode cX8_back 123 = .ok (.aload_n 0, 1) := by decide +kernel
theorem dX8_back_124 : decode cX8_back 124 = .ok (.getfield 42, 3) := by decide +kernel
theorem dX8_back_127 : decode cX8_back 127 = .ok (.iload_n 1, 1) := by decide +kernel
theorem dX8_back_128 : decode cX8_back 128 = .ok (.iaload, 1) := by decide +kernel
theorem dX8_back_129 : decode cX8_back 129 = .ok (.iconst 1, 1) := by decide +kernel
theorem dX8_back_130 : decode cX8_back 130 = .ok (.if_icmp .le 7, 3) := by decide +kernel
theorem dX8_back_133 : decode cX8_back 133 = .ok (.iconst 1, 1) := by decide +kernel
theorem dX8_back_134 : decode cX8_back 134 = .ok (.goto 4, 3) := by decide +kernel
theorem dX8_back_137 : decode cX8_back 137 = .ok (.iconst 0, 1) := by decide +kernel
theorem dX8_back_138 : decode cX8_back 138 = .ok (.bastore, 1) := by decide +kernel
theorem dX8_back_139 : decode cX8_back 139 = .ok (.iinc 1 1, 3) := by decide +kernel
theorem dX8_back_142 : decode cX8_back 142 = .ok (.goto (-53), 3) := by decide +kernel
theorem dX8_back_145 : decode cX8_back 145 = .ok (.iconst 1, 1) := by decide +kernel
theorem dX8_back_146 : decode cX8_back 146 = .ok (.ireturn, 1) := by decide +kernel
theorem dJ6_bitCount_0f7a4_0 : decode cJ6_bitCount_0f7a4 0 = .ok (.iload_n 0, 1) := by decide +kernel
theorem dJ6_bitCount_0f7a4_1 : decode cJ6_bitCount_0f7a4 1 = .ok (.iload_n 0, 1) := by decide +kernel
theorem dJ6_bitCount_0f7a4_2 : decode cJ6_bitCount_0f7a4 2 = .ok (.iconst 1, 1) := by decide +kernel
theorem dJ6_bitCount_0f7a4_3 : decode cJ6_bitCount_0f7a4 3 = .ok (.iushr, 1) := by decide +kernel
theorem dJ6_bitCount_0f7a4_4 : decode cJ6_bitCount_0f7a4 4 = .ok (.ldc_w 265, 3) := by decide +kernel
theorem dJ6_bitCount_0f7a4_7 : decode cJ6_bitCount_0f7a4 7 = .ok (.iand, 1) := by decide +kernel
theorem dJ6_bitCount_0f7a4_8 : decode cJ6_bitCount_0f7a4 8 = .ok (.isub, 1) := by decide +kernel
theorem dJ6_bitCount_0f7a4_9 : decode cJ6_bitCount_0f7a4 9 = .ok (.istore_n 0, 1) := by decide +kernel
theorem dJ6_bitCount_0f7a4_10 : decode cJ6_bitCount_0f7a4 10 = .ok (.iload_n 0, 1) := by decide +kernel
theorem dJ6_bitCount_0f7a4_11 : decode cJ6_bitCount_0f7a4 11 = .ok (.ldc_w 266, 3) := by decide +kernel
theorem dJ6_bitCount_0f7a4_14 : decode cJ6_bitCount_0f7a4 14 = .ok (.iand, 1) := by decide +kernel
theorem dJ6_bitCount_0f7a4_15 : decode cJ6_bitCount_0f7a4 15 = .ok (.iload_n 0, 1) := by decide +kernel
theorem dJ6_bitCount_0f7a4_16 : decode cJ6_bitCount_0f7a4 16 = .ok (.iconst 2, 1) := by decide +kernel
theorem dJ6_bitCount_0f7a4_17 : decode cJ6_bitCount_0f7a4 17 = .ok (.iushr, 1) := by decide +kernel
theorem dJ6_bitCount_0f7a4_18 : decode cJ6_bitCount_0f7a4 18 = .ok (.ldc_w 266, 3) := by decide +kernel
theorem dJ6_bitCount_0f7a4_21 : decode cJ6_bitCount_0f7a4 21 = .ok (.iand, 1) := by decide +kernel
theorem dJ6_bitCount_0f7a4_22 : decode cJ6_bitCount_0f7a4 22 = .ok (.iadd, 1) := by decide +kernel
theorem dJ6_bitCount_0f7a4_23 : decode cJ6_bitCount_0f7a4 23 = .ok (.istore_n 0, 1) := by decide +kernel
theorem dJ6_bitCount_0f7a4_24 : decode cJ6_bitCount_0f7a4 24 = .ok (.iload_n 0, 1) := by decide +kernel
theorem dJ6_bitCount_0f7a4_25 : decode cJ6_bitCount_0f7a4 25 = .ok (.iload_n 0, 1) := by decide +kernel
theorem dJ6_bitCount_0f7a4_26 : decode cJ6_bitCount_0f7a4 26 = .ok (.iconst 4, 1) := by decide +kernel
theorem dJ6_bitCount_0f7a4_27 : decode cJ6_bitCount_0f7a4 27 = .ok (.iushr, 1) := by decide +kernel
theorem dJ6_bitCount_0f7a4_28 : decode cJ6_bitCount_0f7a4 28 = .ok (.iadd, 1) := by decide +kernel
theorem dJ6_bitCount_0f7a4_29 : decode cJ6_bitCount_0f7a4 29 = .ok (.ldc_w 267, 3) := by decide +kernel
theorem dJ6_bitCount_0f7a4_32 : decode cJ6_bitCount_0f7a4 32 = .ok (.iand, 1) := by decide +kernel
theorem dJ6_bitCount_0f7a4_33 : decode cJ6_bitCount_0f7a4 33 = .ok (.istore_n 0, 1) := by decide +kernel
theorem dJ6_bitCount_0f7a4_34 : decode cJ6_bitCount_0f7a4 34 = .ok (.iload_n 0, 1) := by decide +kernel
theorem dJ6_bitCount_0f7a4_35 : decode cJ6_bitCount_0f7a4 35 = .ok (.iload_n 0, 1) := by decide +kernel
theorem dJ6_bitCount_0f7a4_36 : decode cJ6_bitCount_0f7a4 36 = .ok (.bipush 8, 2) := by decide +kernel
theorem dJ6_bitCount_0f7a4_38 : decode cJ6_bitCount_0f7a4 38 = .ok (.iushr, 1) := by decide +kernel
theorem dJ6_bitCount_0f7a4_39 : decode cJ6_bitCount_0f7a4 39 = .ok (.iadd, 1) := by decide +kernel
theorem dJ6_bitCount_0f7a4_40 : decode cJ6_bitCount_0f7a4 40 = .ok (.istore_n 0, 1) := by decide +kernel
theorem dJ6_bitCount_0f7a4_41 : decode cJ6_bitCount_0f7a4 41 = .ok (.iload_n 0, 1) := by decide +kernel
theorem dJ6_bitCount_0f7a4_42 : decode cJ6_bitCount_0f7a4 42 = .ok (.iload_n 0, 1) := by decide +kernel
theorem dJ6_bitCount_0f7a4_43 : decode cJ6_bitCount_0f7a4 43 = .ok (.bipush 16, 2) := by decide +kernel
theorem dJ6_bitCount_0f7a4_45 : decode cJ6_bitCount_0f7a4 45 = .ok (.iushr, 1) := by decide +kernel
theorem dJ6_bitCount_0f7a4_46 : decode cJ6_bitCount_0f7a4 46 = .ok (.iadd, 1) := by decide +kernel
theorem dJ6_bitCount_0f7a4_47 : decode cJ6_bitCount_0f7a4 47 = .ok (.istore_n 0, 1) := by decide +kernel
theorem dJ6_bitCount_0f7a4_48 : decode cJ6_bitCount_0f7a4 48 = .ok (.iload_n 0, 1) := by decide +kernel
theorem dJ6_bitCount_0f7a4_49 : decode cJ6_bitCount_0f7a4 49 = .ok (.bipush 63, 2) := by decide +kernel
theorem dJ6_bitCount_0f7a4_51 : decode cJ6_bitCount_0f7a4 51 = .ok (.iand, 1) := by decide +kernel
theorem dJ6_bitCount_0f7a4_52 : decode cJ6_bitCount_0f7a4 52 = .ok (.ireturn, 1) := by decide +kernel
theorem dJ9_floorDiv_f86c9_0 : decode cJ9_floorDiv_f86c9 0 = .ok (.lload_n 0, 1) := by decide +kernel
theorem dJ9_floorDiv_f86c9_1 : decode cJ9_floorDiv_f86c9 1 = .ok (.lload_n 2, 1) := by decide +kernel
theorem dJ9_floorDiv_f86c9_2 : decode cJ9_floorDiv_f86c9 2 = .ok (.ldiv, 1) := by decide +kernel
theorem dJ9_floorDiv_f86c9_3 : decode cJ9_floorDiv_f86c9 3 = .ok (.lstore 4, 2) := by decide +kernel
theorem dJ9_floorDiv_f86c9_5 : decode cJ9_floorDiv_f86c9 5 = .ok (.lload_n 0, 1) := by decide +kernel
theorem dJ9_floorDiv_f86c9_6 : decode cJ9_floorDiv_f86c9 6 = .ok (.lload_n 2, 1) := by decide +kernel
theorem dJ9_floorDiv_f86c9_7 : decode cJ9_floorDiv_f86c9 7 = .ok (.lxor, 1) := by decide +kernel
theorem dJ9_floorDiv_f86c9_8 : decode cJ9_floorDiv_f86c9 8 = .ok (.lconst 0, 1) := by decide +kernel
theorem dJ9_floorDiv_f86c9_9 : decode cJ9_floorDiv_f86c9 9 = .ok (.lcmp, 1) := by decide +kernel
theorem dJ9_floorDiv_f86c9_10 : decode cJ9_floorDiv_f86c9 10 = .ok (.ifCond .ge 17, 3) := by decide +kernel
theorem dJ9_floorDiv_f86c9_13 : decode cJ9_floorDiv_f86c9 13 = .ok (.lload 4, 2) := by decide +kernel
theorem dJ9_floorDiv_f86c9_15 : decode cJ9_floorDiv_f86c9 15 = .ok (.lload_n 2, 1) := by decide +kernel
theorem dJ9_floorDiv_f86c9_16 : decode cJ9_floorDiv_f86c9 16 = .ok (.lmul, 1) := by decide +kernel
theorem dJ9_floorDiv_f86c9_17 : decode cJ9_floorDiv_f86c9 17 = .ok (.lload_n 0, 1) := by decide +kernel
theorem dJ9_floorDiv_f86c9_18 : decode cJ9_floorDiv_f86c9 18 = .ok (.lcmp, 1) := by decide +kernel
theorem dJ9_floorDiv_f86c9_19 : decode cJ9_floorDiv_f86c9 19 = .ok (.ifCond .eq 8, 3) := by decide +kernel
theorem dJ9_floorDiv_f86c9_22 : decode cJ9_floorDiv_f86c9 22 = .ok (.lload 4, 2) := by decide +kernel
theorem dJ9_floorDiv_f86c9_24 : decode cJ9_floorDiv_f86c9 24 = .ok (.lconst 1, 1) := by decide +kernel
theorem dJ9_floorDiv_f86c9_25 : decode cJ9_floorDiv_f86c9 25 = .ok (.lsub, 1) := by decide +kernel
theorem dJ9_floorDiv_f86c9_26 : decode cJ9_floorDiv_f86c9 26 = .ok (.lreturn, 1) := by decide +kernel
theorem dJ9_floorDiv_f86c9_27 : decode cJ9_floorDiv_f86c9 27 = .ok (.lload 4, 2) := by decide +kernel
theorem dJ9_floorDiv_f86c9_29 : decode cJ9_floorDiv_f86c9 29 = .ok (.lreturn, 1) := by decide +kernel
theorem dJ9_abs_0f7a4_0 : decode cJ9_abs_0f7a4 0 = .ok (.iload_n 0, 1) := by decide +kernel
theorem dJ9_abs_0f7a4_1 : decode cJ9_abs_0f7a4 1 = .ok (.ifCond .ge 8, 3) := by decide +kernel
theorem dJ9_abs_0f7a4_4 : decode cJ9_abs_0f7a4 4 = .ok (.iload_n 0, 1) := by decide +kernel
theorem dJ9_abs_0f7a4_5 : decode cJ9_abs_0f7a4 5 = .ok (.ineg, 1) := by decide +kernel
theorem dJ9_abs_0f7a4_6 : decode cJ9_abs_0f7a4 6 = .ok (.goto 4, 3) := by decide +kernel
theorem dJ9_abs_0f7a4_9 : decode cJ9_abs_0f7a4 9 = .ok (.iload_n 0, 1) := by decide +kernel
theorem dJ9_abs_0f7a4_10 : decode cJ9_abs_0f7a4 10 = .ok (.ireturn, 1) := by decide +kernel
theorem dJ9_abs_067f4_0 : decode cJ9_abs_067f4 0 = .ok (.lload_n 0, 1) := by decide +kernel
theorem dJ9_abs_067f4_1 : decode cJ9_abs_067f4 1 = .ok (.lconst 0, 1) := by decide +kernel
theorem dJ9_abs_067f4_2 : decode cJ9_abs_067f4 2 = .ok (.lcmp, 1) := by decide +kernel
theorem dJ9_abs_067f4_3 : decode cJ9_abs_067f4 3 = .ok (.ifCond .ge 8, 3) := by decide +kernel
theorem dJ9_abs_067f4_6 : decode cJ9_abs_067f4 6 = .ok (.lload_n 0, 1) := by decide +kernel
theorem dJ9_abs_067f4_7 : decode cJ9_abs_067f4 7 = .ok (.lneg, 1) := by decide +kernel
theorem dJ9_abs_067f4_8 : decode cJ9_abs_067f4 8 = .ok (.goto 4, 3) := by decide +kernel
theorem dJ9_abs_067f4_11 : decode cJ9_abs_067f4 11 = .ok (.lload_n 0, 1) := by decide +kernel
theorem dJ9_abs_067f4_12 : decode cJ9_abs_067f4 12 = .ok (.lreturn, 1) := by decide +kernel
theorem dJ9_min_7cf53_0 : decode cJ9_min_7cf53 0 = .ok (.iload_n 0, 1) := by decide +kernel
theorem dJ9_min_7cf53_1 : decode cJ9_min_7cf53 1 = .ok (.iload_n 1, 1) := by decide +kernel
theorem dJ9_min_7cf53_2 : decode cJ9_min_7cf53 2 = .ok (.if_icmp .gt 7, 3) := by decide +kernel
theorem dJ9_min_7cf53_5 : decode cJ9_min_7cf53 5 = .ok (.iload_n 0, 1) := by decide +kernel
theorem dJ9_min_7cf53_6 : decode cJ9_min_7cf53 6 = .ok (.goto 4, 3) := by decide +kernel
theorem dJ9_min_7cf53_9 : decode cJ9_min_7cf53 9 = .ok (.iload_n 1, 1) := by decide +kernel
theorem dJ9_min_7cf53_10 : decode cJ9_min_7cf53 10 = .ok (.ireturn, 1) := by decide +kernel
