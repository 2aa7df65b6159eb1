theorem dX7_chain_87 : decode cX7_chain 87 = .ok (.iload_n 2, 1) := by decide +kernel
theorem dX7_chain_88 : decode cX7_chain 88 = .ok (.if_icmp .ge 166, 3) := by decide +kernel
theorem dX7_chain_91 : decode cX7_chain 91 = .ok (.lload 4, 2) := by decide +kernel
theorem dX7_chain_93 : decode cX7_chain 93 = .ok (.ldc2_w 162, 3) := by decide +kernel
theorem dX7_chain_96 : decode cX7_chain 96 = .ok (.lmul, 1) := by decide +kernel
theorem dX7_chain_97 : decode cX7_chain 97 = .ok (.lstore 4, 2) := by decide +kernel
theorem dX7_chain_99 : decode cX7_chain 99 = .ok (.iconst 0, 1) := by decide +kernel
theorem dX7_chain_100 : decode cX7_chain 100 = .ok (.istore 7, 2) := by decide +kernel
theorem dX7_chain_102 : decode cX7_chain 102 = .ok (.iload 7, 2) := by decide +kernel
theorem dX7_chain_104 : decode cX7_chain 104 = .ok (.bipush 8, 2) := by decide +kernel
theorem dX7_chain_106 : decode cX7_chain 106 = .ok (.if_icmp .ge 17, 3) := by decide +kernel
theorem dX7_chain_109 : decode cX7_chain 109 = .ok (.aload_n 0, 1) := by decide +kernel
theorem dX7_chain_110 : decode cX7_chain 110 = .ok (.getfield 55, 3) := by decide +kernel
theorem dX7_chain_113 : decode cX7_chain 113 = .ok (.iload 7, 2) := by decide +kernel
theorem dX7_chain_115 : decode cX7_chain 115 = .ok (.lconst 0, 1) := by decide +kernel
theorem dX7_chain_116 : decode cX7_chain 116 = .ok (.lastore, 1) := by decide +kernel
theorem dX7_chain_117 : decode cX7_chain 117 = .ok (.iinc 7 1, 3) := by decide +kernel
theorem dX7_chain_120 : decode cX7_chain 120 = .ok (.goto (-18), 3) := by decide +kernel
theorem dX7_chain_123 : decode cX7_chain 123 = .ok (.iconst 0, 1) := by decide +kernel
theorem dX7_chain_124 : decode cX7_chain 124 = .ok (.istore 7, 2) := by decide +kernel
theorem dX7_chain_126 : decode cX7_chain 126 = .ok (.iload 7, 2) := by decide +kernel
theorem dX7_chain_128 : decode cX7_chain 128 = .ok (.bipush 8, 2) := by decide +kernel
theorem dX7_chain_130 : decode cX7_chain 130 = .ok (.if_icmp .ge 88, 3) := by decide +kernel
theorem dX7_chain_133 : decode cX7_chain 133 = .ok (.iconst 0, 1) := by decide +kernel
theorem dX7_chain_134 : decode cX7_chain 134 = .ok (.istore 8, 2) := by decide +kernel
theorem dX7_chain_136 : decode cX7_chain 136 = .ok (.iload 8, 2) := by decide +kernel
theorem dX7_chain_138 : decode cX7_chain 138 = .ok (.bipush 8, 2) := by decide +kernel
theorem dX7_chain_140 : decode cX7_chain 140 = .ok (.if_icmp .ge 72, 3) := by decide +kernel
theorem dX7_chain_143 : decode cX7_chain 143 = .ok (.aload_n 0, 1) := by decide +kernel
theorem dX7_chain_144 : decode cX7_chain 144 = .ok (.getfield 51, 3) := by decide +kernel
theorem dX7_chain_147 : decode cX7_chain 147 = .ok (.iload 7, 2) := by decide +kernel
theorem dX7_chain_149 : decode cX7_chain 149 = .ok (.laload, 1) := by decide +kernel
theorem dX7_chain_150 : decode cX7_chain 150 = .ok (.lconst 0, 1) := by decide +kernel
theorem dX7_chain_151 : decode cX7_chain 151 = .ok (.lcmp, 1) := by decide +kernel
theorem dX7_chain_152 : decode cX7_chain 152 = .ok (.ifCond .le 60, 3) := by decide +kernel
theorem dX7_chain_155 : decode cX7_chain 155 = .ok (.aload_n 0, 1) := by decide +kernel
theorem dX7_chain_156 : decode cX7_chain 156 = .ok (.iload 8, 2) := by decide +kernel
theorem dX7_chain_158 : decode cX7_chain 158 = .ok (.invokevirtual 154, 3) := by decide +kernel
theorem dX7_chain_161 : decode cX7_chain 161 = .ok (.istore 9, 2) := by decide +kernel
theorem dX7_chain_163 : decode cX7_chain 163 = .ok (.iload 9, 2) := by decide +kernel
theorem dX7_chain_165 : decode cX7_chain 165 = .ok (.bipush (-9), 2) := by decide +kernel
theorem dX7_chain_167 : decode cX7_chain 167 = .ok (.if_icmp .eq 39, 3) := by decide +kernel
theorem dX7_chain_170 : decode cX7_chain 170 = .ok (.aload_n 0, 1) := by decide +kernel
theorem dX7_chain_171 : decode cX7_chain 171 = .ok (.getfield 55, 3) := by decide +kernel
theorem dX7_chain_174 : decode cX7_chain 174 = .ok (.iload 9, 2) := by decide +kernel
theorem dX7_chain_176 : decode cX7_chain 176 = .ok (.dup2, 1) := by decide +kernel
theorem dX7_chain_177 : decode cX7_chain 177 = .ok (.laload, 1) := by decide +kernel
theorem dX7_chain_178 : decode cX7_chain 178 = .ok (.aload_n 0, 1) := by decide +kernel
theorem dX7_chain_179 : decode cX7_chain 179 = .ok (.getfield 51, 3) := by decide +kernel
theorem dX7_chain_182 : decode cX7_chain 182 = .ok (.iload 7, 2) := by decide +kernel
theorem dX7_chain_184 : decode cX7_chain 184 = .ok (.laload, 1) := by decide +kernel
theorem dX7_chain_185 : decode cX7_chain 185 = .ok (.aload_n 0, 1) := by decide +kernel
theorem dX7_chain_186 : decode cX7_chain 186 = .ok (.aload_n 0, 1) := by decide +kernel
theorem dX7_chain_187 : decode cX7_chain 187 = .ok (.getfield 26, 3) := by decide +kernel
theorem dX7_chain_190 : decode cX7_chain 190 = .ok (.aload_n 0, 1) := by decide +kernel
theorem dX7_chain_191 : decode cX7_chain 191 = .ok (.iload 7, 2) := by decide +kernel
theorem dX7_chain_193 : decode cX7_chain 193 = .ok (.invokevirtual 159, 3) := by decide +kernel
theorem dX7_chain_196 : decode cX7_chain 196 = .ok (.iaload, 1) := by decide +kernel
theorem dX7_chain_197 : decode cX7_chain 197 = .ok (.iload 8, 2) := by decide +kernel
theorem dX7_chain_199 : decode cX7_chain 199 = .ok (.invokevirtual 151, 3) := by decide +kernel
theorem dX7_chain_202 : decode cX7_chain 202 = .ok (.i2l, 1) := by decide +kernel
theorem dX7_chain_203 : decode cX7_chain 203 = .ok (.lmul, 1) := by decide +kernel
theorem dX7_chain_204 : decode cX7_chain 204 = .ok (.ladd, 1) := by decide +kernel
theorem dX7_chain_205 : decode cX7_chain 205 = .ok (.lastore, 1) := by decide +kernel
theorem dX7_chain_206 : decode cX7_chain 206 = .ok (.iinc 8 1, 3) := by decide +kernel
theorem dX7_chain_209 : decode cX7_chain 209 = .ok (.goto (-73), 3) := by decide +kernel
theorem dX7_chain_212 : decode cX7_chain 212 = .ok (.iinc 7 1, 3) := by decide +kernel
theorem dX7_chain_215 : decode cX7_chain 215 = .ok (.goto (-89), 3) := by decide +kernel
theorem dX7_chain_218 : decode cX7_chain 218 = .ok (.iconst 0, 1) := by decide +kernel
theorem dX7_chain_219 : decode cX7_chain 219 = .ok (.istore 7, 2) := by decide +kernel
theorem dX7_chain_221 : decode cX7_chain 221 = .ok (.iload 7, 2) := by decide +kernel
theorem dX7_chain_223 : decode cX7_chain 223 = .ok (.bipush 8, 2) := by decide +kernel
theorem dX7_chain_225 : decode cX7_chain 225 = .ok (.if_icmp .ge 23, 3) := by decide +kernel
theorem dX7_chain_228 : decode cX7_chain 228 = .ok (.aload_n 0, 1) := by decide +kernel
theorem dX7_chain_229 : decode cX7_chain 229 = .ok (.getfield 51, 3) := by decide +kernel
theorem dX7_chain_232 : decode cX7_chain 232 = .ok (.iload 7, 2) := by decide +kernel
theorem dX7_chain_234 : decode cX7_chain 234 = .ok (.aload_n 0, 1) := by decide +kernel
theorem dX7_chain_235 : decode cX7_chain 235 = .ok (.getfield 55, 3) := by decide +kernel
theorem dX7_chain_238 : decode cX7_chain 238 = .ok (.iload 7, 2) := by decide +kernel
theorem dX7_chain_240 : decode cX7_chain 240 = .ok (.laload, 1) := by decide +kernel
theorem dX7_chain_241 : decode cX7_chain 241 = .ok (.lastore, 1) := by decide +kernel
theorem dX7_chain_242 : decode cX7_chain 242 = .ok (.iinc 7 1, 3) := by decide +kernel
theorem dX7_chain_245 : decode cX7_chain 245 = .ok (.goto (-24), 3) := by decide +kernel
theorem dX7_chain_248 : decode cX7_chain 248 = .ok (.iinc 6 1, 3) := by decide +kernel
theorem dX7_chain_251 : decode cX7_chain 251 = .ok (.goto (-166), 3) := by decide +kernel
theorem dX7_chain_254 : decode cX7_chain 254 = .ok (.aload_n 0, 1) := by decide +kernel
theorem dX7_chain_255 : decode cX7_chain 255 = .ok (.getfield 51, 3) := by decide +kernel
theorem dX7_chain_258 : decode cX7_chain 258 = .ok (.iload_n 1, 1) := by decide +kernel
theorem dX7_chain_259 : decode cX7_chain 259 = .ok (.laload, 1) := by decide +kernel
theorem dX7_chain_260 : decode cX7_chain 260 = .ok (.lload 4, 2) := by decide +kernel
theorem dX7_chain_262 : decode cX7_chain 262 = .ok (.invokestatic 164, 3) := by decide +kernel
theorem dX7_chain_265 : decode cX7_chain 265 = .ok (.lstore 6, 2) := by decide +kernel
theorem dX7_chain_267 : decode cX7_chain 267 = .ok (.iload_n 3, 1) := by decide +kernel
theorem dX7_chain_268 : decode cX7_chain 268 = .ok (.ifCond .ne 15, 3) := by decide +kernel
theorem dX7_chain_271 : decode cX7_chain 271 = .ok (.aload_n 0, 1) := by decide +kernel
theorem dX7_chain_272 : decode cX7_chain 272 = .ok (.getfield 51, 3) := by decide +kernel
theorem dX7_chain_275 : decode cX7_chain 275 = .ok (.iload_n 1, 1) := by decide +kernel
theorem dX7_chain_276 : decode cX7_chain 276 = .ok (.laload, 1) := by decide +kernel
theorem dX7_chain_277 : decode cX7_chain 277 = .ok (.lload 6, 2) := by decide +kernel
theorem dX7_chain_279 : decode cX7_chain 279 = .ok (.ldiv, 1) := by decide +kernel
theorem dX7_chain_280 : decode cX7_chain 280 = .ok (.goto 8, 3) := by decide +kernel
theorem dX7_chain_283 : decode cX7_chain 283 = .ok (.lload 4, 2) := by decide +kernel
theorem dX7_chain_285 : decode cX7_chain 285 = .ok (.lload 6, 2) := by decide +kernel
theorem dX7_chain_287 : decode cX7_chain 287 = .ok (.ldiv, 1) := by decide +kernel
theorem dX7_chain_288 : decode cX7_chain 288 = .ok (.lreturn, 1) := by decide +kernel
set_option maxRecDepth 20000 in
theorem ggX7_who_X7_isSmoke : GoodIn wsX7_who wsX7_isSmoke := goodIn_r _ [7, 8, 9, 6, 10] (by decide +kernel) (by decide +kernel)
set_option maxRecDepth 20000 in
theorem gX7_who_X7_isSmoke : GoodIn wsX7_who (va_wsS RX7 148 yX7_isSmoke wsX7_isSmoke) := goodIn_app (goodIn_of _ (by decide +kernel)) ggX7_who_X7_isSmoke
set_option maxRecDepth 20000 in
theorem ggX7_who_X7_isHouse : GoodIn wsX7_who wsX7_isHouse := goodIn_r _ [14, 1, 8, 9, 6, 10, 28, 29, 30, 31, 32, 33, 34, 35, 36, 37, 38, 39, 40, 41, 42, 43, 44, 45, 46, 47, 48, 49, 50, 51] (by decide +kernel) (by decide +kernel)
set_option maxRecDepth 20000 in
theorem gX7_who_X7_isHouse : GoodIn wsX7_who (wsV RX7 111 RX7 yX7_isHouse wsX7_isHouse) := goodIn_app (goodIn_of _ (by decide +kernel)) ggX7_who_X7_isHouse
set_option maxRecDepth 20000 in
theorem ggX7_who_X7_in : GoodIn wsX7_who wsX7_in := goodIn_r _ [10] (by decide +kernel) (by decide +kernel)
set_option maxRecDepth 20000 in
theorem gX7_who_X7_in : GoodIn wsX7_who (va_wsS RX7 61 yX7_in wsX7_in) := goodIn_app (goodIn_of _ (by decide +kernel)) ggX7_who_X7_in
set_option maxRecDepth 20000 in
theorem ggX7_who_X7_canCook : GoodIn wsX7_who wsX7_canCook := goodIn_r _ [18, 19, 20, 28, 29, 30, 31, 32, 33, 34, 35, 36, 37, 38, 39, 40, 41, 42, 43, 44, 45, 46, 47, 48, 49, 50, 51] (by decide +kernel) (by decide +kernel)
set_option maxRecDepth 20000 in
theorem gX7_who_X7_canCook : GoodIn wsX7_who (wsV RX7 124 RX7 yX7_canCook wsX7_canCook) := goodIn_app (goodIn_of _ (by decide +kernel)) ggX7_who_X7_canCook
set_option maxRecDepth 20000 in
theorem ggX7_who_X7_readAs : GoodIn wsX7_who wsX7_readAs := goodIn_r _ [24, 19, 28, 29, 30, 31, 32, 33, 34, 35, 36, 37, 38, 39, 40, 41, 42, 43, 44, 45, 46, 47, 48, 49, 50, 51] (by decide +kernel) (by decide +kernel)
set_option maxRecDepth 20000 in
theorem gX7_who_X7_readAs : GoodIn wsX7_who (wsV RX7 151 RX7 yX7_readAs wsX7_readAs) := goodIn_app (goodIn_of _ (by decide +kernel)) ggX7_who_X7_readAs
set_option maxRecDepth 20000 in
theorem ggX7_who_X7_common : GoodIn wsX7_who wsX7_common := goodIn_r _ [27] (by decide +kernel) (by decide +kernel)
set_option maxRecDepth 20000 in
theorem gX7_who_X7_common : GoodIn wsX7_who (va_wsS RX7 164 yX7_common wsX7_common) := goodIn_app (goodIn_of _ (by decide +kernel)) ggX7_who_X7_common
theorem dX7_who_0 : decode cX7_who 0 = .ok (.iload_n 1, 1) := by decide +kernel
theorem dX7_who_1 : decode cX7_who 1 = .ok (.invokestatic 148, 3) := by decide +kernel
theorem dX7_who_4 : decode cX7_who 4 = .ok (.ifCond .eq 20, 3) := by decide +kernel
theorem dX7_who_7 : decode cX7_who 7 = .ok (.aload_n 0, 1) := by decide +kernel
theorem dX7_who_8 : decode cX7_who 8 = .ok (.iload_n 2, 1) := by decide +kernel
theorem dX7_who_9 : decode cX7_who 9 = .ok (.invokevirtual 111, 3) := by decide +kernel
theorem dX7_who_12 : decode cX7_who 12 = .ok (.ifCond .eq 12, 3) := by decide +kernel
theorem dX7_who_15 : decode cX7_who 15 = .ok (.iload_n 3, 1) := by decide +kernel
theorem dX7_who_16 : decode cX7_who 16 = .ok (.iconst 0, 1) := by decide +kernel
theorem dX7_who_17 : decode cX7_who 17 = .ok (.iconst 1, 1) := by decide +kernel
theorem dX7_who_18 : decode cX7_who 18 = .ok (.invokestatic 61, 3) := by decide +kernel
theorem dX7_who_21 : decode cX7_who 21 = .ok (.ifCond .ne 5, 3) := by decide +kernel
theorem dX7_who_24 : decode cX7_who 24 = .ok (.iconst (-1), 1) := by decide +kernel
theorem dX7_who_25 : decode cX7_who 25 = .ok (.ireturn, 1) := by decide +kernel
theorem dX7_who_26 : decode cX7_who 26 = .ok (.iconst 0, 1) := by decide +kernel
theorem dX7_who_27 : decode cX7_who 27 = .ok (.istore 4, 2) := by decide +kernel
theorem dX7_who_29 : decode cX7_who 29 = .ok (.iconst 0, 1) := by decide +kernel
theorem dX7_who_30 : decode cX7_who 30 = .ok (.istore 5, 2) := by decide +kernel
theorem dX7_who_32 : decode cX7_who 32 = .ok (.iconst 0, 1) := by decide +kernel
theorem dX7_who_33 : decode cX7_who 33 = .ok (.istore 6, 2) := by decide +kernel
theorem dX7_who_35 : decode cX7_who 35 = .ok (.iload 6, 2) := by decide +kernel
theorem dX7_who_37 : decode cX7_who 37 = .ok (.aload_n 0, 1) := by decide +kernel
theorem dX7_who_38 : decode cX7_who 38 = .ok (.getfield 13, 3) := by decide +kernel
theorem dX7_who_41 : decode cX7_who 41 = .ok (.iconst 0, 1) := by decide +kernel
theorem dX7_who_42 : decode cX7_who 42 = .ok (.iaload, 1) := by decide +kernel
theorem dX7_who_43 : decode cX7_who 43 = .ok (.if_icmp .ge 82, 3) := by decide +kernel
theorem dX7_who_46 : decode cX7_who 46 = .ok (.iconst 0, 1) := by decide +kernel
theorem dX7_who_47 : decode cX7_who 47 = .ok (.istore 7, 2) := by decide +kernel
theorem dX7_who_49 : decode cX7_who 49 = .ok (.iload 7, 2) := by decide +kernel
theorem dX7_who_51 : decode cX7_who 51 = .ok (.aload_n 0, 1) := by decide +kernel
theorem dX7_who_52 : decode cX7_who 52 = .ok (.getfield 20, 3) := by decide +kernel
theorem dX7_who_55 : decode cX7_who 55 = .ok (.iconst 0, 1) := by decide +kernel
theorem dX7_who_56 : decode cX7_who 56 = .ok (.iaload, 1) := by decide +kernel
theorem dX7_who_57 : decode cX7_who 57 = .ok (.if_icmp .ge 62, 3) := by decide +kernel
theorem dX7_who_60 : decode cX7_who 60 = .ok (.aload_n 0, 1) := by decide +kernel
theorem dX7_who_61 : decode cX7_who 61 = .ok (.iload 6, 2) := by decide +kernel
theorem dX7_who_63 : decode cX7_who 63 = .ok (.iload 7, 2) := by decide +kernel
theorem dX7_who_65 : decode cX7_who 65 = .ok (.invokevirtual 124, 3) := by decide +kernel
theorem dX7_who_68 : decode cX7_who 68 = .ok (.ifCond .eq 18, 3) := by decide +kernel
theorem dX7_who_71 : decode cX7_who 71 = .ok (.aload_n 0, 1) := by decide +kernel
theorem dX7_who_72 : decode cX7_who 72 = .ok (.aload_n 0, 1) := by decide +kernel
theorem dX7_who_73 : decode cX7_who 73 = .ok (.getfield 26, 3) := by decide +kernel
theorem dX7_who_76 : decode cX7_who 76 = .ok (.iload 7, 2) := by decide +kernel
theorem dX7_who_78 : decode cX7_who 78 = .ok (.iaload, 1) := by decide +kernel
theorem dX7_who_79 : decode cX7_who 79 = .ok (.iload_n 1, 1) := by decide +kernel
theorem dX7_who_80 : decode cX7_who 80 = .ok (.invokevirtual 151, 3) := by decide +kernel
theorem dX7_who_83 : decode cX7_who 83 = .ok (.goto 4, 3) := by decide +kernel
theorem dX7_who_86 : decode cX7_who 86 = .ok (.iconst 0, 1) := by decide +kernel
theorem dX7_who_87 : decode cX7_who 87 = .ok (.istore 8, 2) := by decide +kernel
theorem dX7_who_89 : decode cX7_who 89 = .ok (.iload 4, 2) := by decide +kernel
theorem dX7_who_91 : decode cX7_who 91 = .ok (.iload 6, 2) := by decide +kernel
theorem dX7_who_93 : decode cX7_who 93 = .ok (.iload_n 2, 1) := by decide +kernel
theorem dX7_who_94 : decode cX7_who 94 = .ok (.if_icmp .ne 8, 3) := by decide +kernel
theorem dX7_who_97 : decode cX7_who 97 = .ok (.iload 8, 2) := by decide +kernel
theorem dX7_who_99 : decode cX7_who 99 = .ok (.goto 4, 3) := by decide +kernel
theorem dX7_who_102 : decode cX7_who 102 = .ok (.iconst 0, 1) := by decide +kernel
theorem dX7_who_103 : decode cX7_who 103 = .ok (.iadd, 1) := by decide +kernel
theorem dX7_who_104 : decode cX7_who 104 = .ok (.istore 4, 2) := by decide +kernel
theorem dX7_who_106 : decode cX7_who 106 = .ok (.iload 5, 2) := by decide +kernel
theorem dX7_who_108 : decode cX7_who 108 = .ok (.iload 8, 2) := by decide +kernel
theorem dX7_who_110 : decode cX7_who 110 = .ok (.iadd, 1) := by decide +kernel
theorem dX7_who_111 : decode cX7_who 111 = .ok (.istore 5, 2) := by decide +kernel
theorem dX7_who_113 : decode cX7_who 113 = .ok (.iinc 7 1, 3) := by decide +kernel
theorem dX7_who_116 : decode cX7_who 116 = .ok (.goto (-67), 3) := by decide +kernel
theorem dX7_who_119 : decode cX7_who 119 = .ok (.iinc 6 1, 3) := by decide +kernel
theorem dX7_who_122 : decode cX7_who 122 = .ok (.goto (-87), 3) := by decide +kernel
theorem dX7_who_125 : decode cX7_who 125 = .ok (.iload 5, 2) := by decide +kernel
theorem dX7_who_127 : decode cX7_who 127 = .ok (.ifCond .ne 6, 3) := by decide +kernel
theorem dX7_who_130 : decode cX7_who 130 = .ok (.bipush (-2), 2) := by decide +kernel
theorem dX7_who_132 : decode cX7_who 132 = .ok (.ireturn, 1) := by decide +kernel
theorem dX7_who_133 : decode cX7_who 133 = .ok (.iload 4, 2) := by decide +kernel
theorem dX7_who_135 : decode cX7_who 135 = .ok (.i2l, 1) := by decide +kernel
theorem dX7_who_136 : decode cX7_who 136 = .ok (.iload 5, 2) := by decide +kernel
theorem dX7_who_138 : decode cX7_who 138 = .ok (.i2l, 1) := by decide +kernel
theorem dX7_who_139 : decode cX7_who 139 = .ok (.invokestatic 164, 3) := by decide +kernel
theorem dX7_who_142 : decode cX7_who 142 = .ok (.l2i, 1) := by decide +kernel
theorem dX7_who_143 : decode cX7_who 143 = .ok (.istore 6, 2) := by decide +kernel
theorem dX7_who_145 : decode cX7_who 145 = .ok (.iload_n 3, 1) := by decide +kernel
theorem dX7_who_146 : decode cX7_who 146 = .ok (.ifCond .ne 11, 3) := by decide +kernel
theorem dX7_who_149 : decode cX7_who 149 = .ok (.iload 4, 2) := by decide +kernel
theorem dX7_who_151 : decode cX7_who 151 = .ok (.iload 6, 2) := by decide +kernel
theorem dX7_who_153 : decode cX7_who 153 = .ok (.idiv, 1) := by decide +kernel
theorem dX7_who_154 : decode cX7_who 154 = .ok (.goto 8, 3) := by decide +kernel
theorem dX7_who_157 : decode cX7_who 157 = .ok (.iload 5, 2) := by decide +kernel
theorem dX7_who_159 : decode cX7_who 159 = .ok (.iload 6, 2) := by decide +kernel
theorem dX7_who_161 : decode cX7_who 161 = .ok (.idiv, 1) := by decide +kernel
theorem dX7_who_162 : decode cX7_who 162 = .ok (.ireturn, 1) := by decide +kernel
set_option maxRecDepth 20000 in
theorem ggX7_nextSupper_X7_unitsOf : GoodIn wsX7_nextSupper wsX7_unitsOf := goodIn_r _ [8, 3, 9, 10, 11, 12, 13, 14, 15, 16, 17, 18, 19, 20, 21, 22, 23, 24, 25, 26, 27, 28, 29, 30, 31, 32] (by decide +kernel) (by decide +kernel)
set_option maxRecDepth 20000 in
theorem gX7_nextSupper_X7_unitsOf : GoodIn wsX7_nextSupper (wsV RX7 121 RX7 yX7_unitsOf wsX7_unitsOf) := goodIn_app (goodIn_of _ (by decide +kernel)) ggX7_nextSupper_X7_unitsOf
theorem dX7_nextSupper_0 : decode cX7_nextSupper 0 = .ok (.bipush (-9), 2) := by decide +kernel
theorem dX7_nextSupper_2 : decode cX7_nextSupper 2 = .ok (.istore_n 1, 1) := by decide +kernel
theorem dX7_nextSupper_3 : decode cX7_nextSupper 3 = .ok (.iconst 0, 1) := by decide +kernel
theorem dX7_nextSupper_4 : decode cX7_nextSupper 4 = .ok (.istore_n 2, 1) := by decide +kernel
theorem dX7_nextSupper_5 : decode cX7_nextSupper 5 = .ok (.iload_n 2, 1) := by decide +kernel
theorem dX7_nextSupper_6 : decode cX7_nextSupper 6 = .ok (.aload_n 0, 1) := by decide +kernel
theorem dX7_nextSupper_7 : decode cX7_nextSupper 7 = .ok (.getfield 20, 3) := by decide +kernel
theorem dX7_nextSupper_10 : decode cX7_nextSupper 10 = .ok (.iconst 0, 1) := by decide +kernel
theorem dX7_nextSupper_11 : decode cX7_nextSupper 11 = .ok (.iaload, 1) := by decide +kernel
theorem dX7_nextSupper_12 : decode cX7_nextSupper 12 = .ok (.if_icmp .ge 90, 3) := by decide +kernel
theorem dX7_nextSupper_15 : decode cX7_nextSupper 15 = .ok (.iload_n 1, 1) := by decide +kernel
theorem dX7_nextSupper_16 : decode cX7_nextSupper 16 = .ok (.bipush (-9), 2) := by decide +kernel
theorem dX7_nextSupper_18 : decode cX7_nextSupper 18 = .ok (.if_icmp .eq 16, 3) := by decide +kernel
theorem dX7_nextSupper_21 : decode cX7_nextSupper 21 = .ok (.aload_n 0, 1) := by decide +kernel
theorem dX7_nextSupper_22 : decode cX7_nextSupper 22 = .ok (.iload_n 2, 1) := by decide +kernel
theorem dX7_nextSupper_23 : decode cX7_nextSupper 23 = .ok (.invokevirtual 121, 3) := by decide +kernel
theorem dX7_nextSupper_26 : decode cX7_nextSupper 26 = .ok (.aload_n 0, 1) := by decide +kernel
theorem dX7_nextSupper_27 : decode cX7_nextSupper 27 = .ok (.iload_n 1, 1) := by decide +kernel
theorem dX7_nextSupper_28 : decode cX7_nextSupper 28 = .ok (.invokevirtual 121, 3) := by decide +kernel
theorem dX7_nextSupper_31 : decode cX7_nextSupper 31 = .ok (.if_icmp .ge 7, 3) := by decide +kernel
theorem dX7_nextSupper_34 : decode cX7_nextSupper 34 = .ok (.iconst 1, 1) := by decide +kernel
theorem dX7_nextSupper_35 : decode cX7_nextSupper 35 = .ok (.goto 4, 3) := by decide +kernel
theorem dX7_nextSupper_38 : decode cX7_nextSupper 38 = .ok (.iconst 0, 1) := by decide +kernel
theorem dX7_nextSupper_39 : decode cX7_nextSupper 39 = .ok (.istore_n 3, 1) := by decide +kernel
theorem dX7_nextSupper_40 : decode cX7_nextSupper 40 = .ok (.iconst 0, 1) := by decide +kernel
theorem dX7_nextSupper_41 : decode cX7_nextSupper 41 = .ok (.istore 4, 2) := by decide +kernel
theorem dX7_nextSupper_43 : decode cX7_nextSupper 43 = .ok (.iload 4, 2) := by decide +kernel
theorem dX7_nextSupper_45 : decode cX7_nextSupper 45 = .ok (.iconst 5, 1) := by decide +kernel
theorem dX7_nextSupper_46 : decode cX7_nextSupper 46 = .ok (.if_icmp .ge 40, 3) := by decide +kernel
theorem dX7_nextSupper_49 : decode cX7_nextSupper 49 = .ok (.iload_n 3, 1) := by decide +kernel
theorem dX7_nextSupper_50 : decode cX7_nextSupper 50 = .ok (.ifCond .eq 28, 3) := by decide +kernel
theorem dX7_nextSupper_53 : decode cX7_nextSupper 53 = .ok (.aload_n 0, 1) := by decide +kernel
theorem dX7_nextSupper_54 : decode cX7_nextSupper 54 = .ok (.getfield 58, 3) := by decide +kernel
theorem dX7_nextSupper_57 : decode cX7_nextSupper 57 = .ok (.iload 4, 2) := by decide +kernel
theorem dX7_nextSupper_59 : decode cX7_nextSupper 59 = .ok (.iaload, 1) := by decide +kernel
theorem dX7_nextSupper_60 : decode cX7_nextSupper 60 = .ok (.aload_n 0, 1) := by decide +kernel
theorem dX7_nextSupper_61 : decode cX7_nextSupper 61 = .ok (.getfield 23, 3) := by decide +kernel
theorem dX7_nextSupper_64 : decode cX7_nextSupper 64 = .ok (.iconst 5, 1) := by decide +kernel
theorem dX7_nextSupper_65 : decode cX7_nextSupper 65 = .ok (.iload_n 2, 1) := by decide +kernel
theorem dX7_nextSupper_66 : decode cX7_nextSupper 66 = .ok (.imul, 1) := by decide +kernel
theorem dX7_nextSupper_67 : decode cX7_nextSupper 67 = .ok (.iload 4, 2) := by decide +kernel
theorem dX7_nextSupper_69 : decode cX7_nextSupper 69 = .ok (.iadd, 1) := by decide +kernel
theorem dX7_nextSupper_70 : decode cX7_nextSupper 70 = .ok (.iaload, 1) := by decide +kernel
theorem dX7_nextSupper_71 : decode cX7_nextSupper 71 = .ok (.if_icmp .lt 7, 3) := by decide +kernel
theorem dX7_nextSupper_74 : decode cX7_nextSupper 74 = .ok (.iconst 1, 1) := by decide +kernel
theorem dX7_nextSupper_75 : decode cX7_nextSupper 75 = .ok (.goto 4, 3) := by decide +kernel
theorem dX7_nextSupper_78 : decode cX7_nextSupper 78 = .ok (.iconst 0, 1) := by decide +kernel
theorem dX7_nextSupper_79 : decode cX7_nextSupper 79 = .ok (.istore_n 3, 1) := by decide +kernel
theorem dX7_nextSupper_80 : decode cX7_nextSupper 80 = .ok (.iinc 4 1, 3) := by decide +kernel
theorem dX7_nextSupper_83 : decode cX7_nextSupper 83 = .ok (.goto (-40), 3) := by decide +kernel
theorem dX7_nextSupper_86 : decode cX7_nextSupper 86 = .ok (.iload_n 3, 1) := by decide +kernel
theorem dX7_nextSupper_87 : decode cX7_nextSupper 87 = .ok (.ifCond .eq 7, 3) := by decide +kernel
theorem dX7_nextSupper_90 : decode cX7_nextSupper 90 = .ok (.iload_n 2, 1) := by decide +kernel
theorem dX7_nextSupper_91 : decode cX7_nextSupper 91 = .ok (.goto 4, 3) := by decide +kernel
theorem dX7_nextSupper_94 : decode cX7_nextSupper 94 = .ok (.iload_n 1, 1) := by decide +kernel
theorem dX7_nextSupper_95 : decode cX7_nextSupper 95 = .ok (.istore_n 1, 1) := by decide +kernel
theorem dX7_nextSupper_96 : decode cX7_nextSupper 96 = .ok (.iinc 2 1, 3) := by decide +kernel
theorem dX7_nextSupper_99 : decode cX7_nextSupper 99 = .ok (.goto (-94), 3) := by decide +kernel
theorem dX7_nextSupper_102 : decode cX7_nextSupper 102 = .ok (.iload_n 1, 1) := by decide +kernel
theorem dX7_nextSupper_103 : decode cX7_nextSupper 103 = .ok (.ireturn, 1) := by decide +kernel
set_option maxRecDepth 20000 in
theorem ggX7_days_X7_isHouse : GoodIn wsX7_days wsX7_isHouse := goodIn_r _ [8, 9, 10, 11, 7, 12, 22, 23, 24, 25, 26, 27, 28, 29, 30, 31, 32, 33, 34, 35, 36, 37, 38, 39, 40, 41, 42, 43, 44, 45] (by decide +kernel) (by decide +kernel)
set_option maxRecDepth 20000 in
theorem gX7_days_X7_isHouse : GoodIn wsX7_days (wsV RX7 111 RX7 yX7_isHouse wsX7_isHouse) := goodIn_app (goodIn_of _ (by decide +kernel)) ggX7_days_X7_isHouse
set_option maxRecDepth 20000 in
theorem ggX7_days_X7_nextSupper : GoodIn wsX7_days wsX7_nextSupper := goodIn_r _ [16, 17, 1, 3, 18, 19, 20, 7, 21, 22, 23, 24, 25, 26, 27, 28, 29, 30, 31, 32, 33, 34, 35, 36, 37, 38, 39, 40, 41, 42, 43, 44, 45] (by decide +kernel) (by decide +kernel)
set_option maxRecDepth 20000 in
theorem gX7_days_X7_nextSupper : GoodIn wsX7_days (wsV RX7 168 RX7 yX7_nextSupper wsX7_nextSupper) := goodIn_app (goodIn_of _ (by decide +kernel)) ggX7_days_X7_nextSupper
theorem dX7_days_0 : decode cX7_days 0 = .ok (.aload_n 0, 1) := by decide +kernel
theorem dX7_days_1 : decode cX7_days 1 = .ok (.iload_n 1, 1) := by decide +kernel
theorem dX7_days_2 : decode cX7_days 2 = .ok (.invokevirtual 111, 3) := by decide +kernel
theorem dX7_days_5 : decode cX7_days 5 = .ok (.ifCond .ne 5, 3) := by decide +kernel
theorem dX7_days_8 : decode cX7_days 8 = .ok (.iconst (-1), 1) := by decide +kernel
theorem dX7_days_9 : decode cX7_days 9 = .ok (.ireturn, 1) := by decide +kernel
theorem dX7_days_10 : decode cX7_days 10 = .ok (.iconst 0, 1) := by decide +kernel
theorem dX7_days_11 : decode cX7_days 11 = .ok (.istore_n 2, 1) := by decide +kernel
theorem dX7_days_12 : decode cX7_days 12 = .ok (.iload_n 2, 1) := by decide +kernel
theorem dX7_days_13 : decode cX7_days 13 = .ok (.iconst 5, 1) := by decide +kernel
theorem dX7_days_14 : decode cX7_days 14 = .ok (.if_icmp .ge 25, 3) := by decide +kernel
theorem dX7_days_17 : decode cX7_days 17 = .ok (.aload_n 0, 1) := by decide +kernel
theorem dX7_days_18 : decode cX7_days 18 = .ok (.getfield 58, 3) := by decide +kernel
theorem dX7_days_21 : decode cX7_days 21 = .ok (.iload_n 2, 1) := by decide +kernel
theorem dX7_days_22 : decode cX7_days 22 = .ok (.aload_n 0, 1) := by decide +kernel
theorem dX7_days_23 : decode cX7_days 23 = .ok (.getfield 35, 3) := by decide +kernel
theorem dX7_days_26 : decode cX7_days 26 = .ok (.iconst 5, 1) := by decide +kernel
theorem dX7_days_27 : decode cX7_days 27 = .ok (.iload_n 1, 1) := by decide +kernel
theorem dX7_days_28 : decode cX7_days 28 = .ok (.imul, 1) := by decide +kernel
theorem dX7_days_29 : decode cX7_days 29 = .ok (.iload_n 2, 1) := by decide +kernel
theorem dX7_days_30 : decode cX7_days 30 = .ok (.iadd, 1) := by decide +kernel
theorem dX7_days_31 : decode cX7_days 31 = .ok (.iaload, 1) := by decide +kernel
theorem dX7_days_32 : decode cX7_days 32 = .ok (.iastore, 1) := by decide +kernel
theorem dX7_days_33 : decode cX7_days 33 = .ok (.iinc 2 1, 3) := by decide +kernel
theorem dX7_days_36 : decode cX7_days 36 = .ok (.goto (-24), 3) := by decide +kernel
theorem dX7_days_39 : decode cX7_days 39 = .ok (.iconst 0, 1) := by decide +kernel
theorem dX7_days_40 : decode cX7_days 40 = .ok (.istore_n 2, 1) := by decide +kernel
theorem dX7_days_41 : decode cX7_days 41 = .ok (.aload_n 0, 1) := by decide +kernel
theorem dX7_days_42 : decode cX7_days 42 = .ok (.invokevirtual 168, 3) := by decide +kernel
theorem dX7_days_45 : decode cX7_days 45 = .ok (.istore_n 3, 1) := by decide +kernel
theorem dX7_days_46 : decode cX7_days 46 = .ok (.iload_n 3, 1) := by decide +kernel
theorem dX7_days_47 : decode cX7_days 47 = .ok (.bipush (-9), 2) := by decide +kernel
theorem dX7_days_49 : decode cX7_days 49 = .ok (.if_icmp .eq 56, 3) := by decide +kernel
theorem dX7_days_52 : decode cX7_days 52 = .ok (.iload_n 2, 1) := by decide +kernel
theorem dX7_days_53 : decode cX7_days 53 = .ok (.bipush 30, 2) := by decide +kernel
theorem dX7_days_55 : decode cX7_days 55 = .ok (.if_icmp .ge 50, 3) := by decide +kernel
theorem dX7_days_58 : decode cX7_days 58 = .ok (.iconst 0, 1) := by decide +kernel
theorem dX7_days_59 : decode cX7_days 59 = .ok (.istore 4, 2) := by decide +kernel
theorem dX7_days_61 : decode cX7_days 61 = .ok (.iload 4, 2) := by decide +kernel
theorem dX7_days_63 : decode cX7_days 63 = .ok (.iconst 5, 1) := by decide +kernel
theorem dX7_days_64 : decode cX7_days 64 = .ok (.if_icmp .ge 30, 3) := by decide +kernel
theorem dX7_days_67 : decode cX7_days 67 = .ok (.aload_n 0, 1) := by decide +kernel
theorem dX7_days_68 : decode cX7_days 68 = .ok (.getfield 58, 3) := by decide +kernel
theorem dX7_days_71 : decode cX7_days 71 = .ok (.iload 4, 2) := by decide +kernel
theorem dX7_days_73 : decode cX7_days 73 = .ok (.dup2, 1) := by decide +kernel
theorem dX7_days_74 : decode cX7_days 74 = .ok (.iaload, 1) := by decide +kernel
theorem dX7_days_75 : decode cX7_days 75 = .ok (.aload_n 0, 1) := by decide +kernel
theorem dX7_days_76 : decode cX7_days 76 = .ok (.getfield 23, 3) := by decide +kernel
theorem dX7_days_79 : decode cX7_days 79 = .ok (.iconst 5, 1) := by decide +kernel
theorem dX7_days_80 : decode cX7_days 80 = .ok (.iload_n 3, 1) := by decide +kernel
theorem dX7_days_81 : decode cX7_days 81 = .ok (.imul, 1) := by decide +kernel
theorem dX7_days_82 : decode cX7_days 82 = .ok (.iload 4, 2) := by decide +kernel
theorem dX7_days_84 : decode cX7_days 84 = .ok (.iadd, 1) := by decide +kernel
theorem dX7_days_85 : decode cX7_days 85 = .ok (.iaload, 1) := by decide +kernel
theorem dX7_days_86 : decode cX7_days 86 = .ok (.isub, 1) := by decide +kernel
theorem dX7_days_87 : decode cX7_days 87 = .ok (.iastore, 1) := by decide +kernel
theorem dX7_days_88 : decode cX7_days 88 = .ok (.iinc 4 1, 3) := by decide +kernel
theorem dX7_days_91 : decode cX7_days 91 = .ok (.goto (-30), 3) := by decide +kernel
theorem dX7_days_94 : decode cX7_days 94 = .ok (.iinc 2 1, 3) := by decide +kernel
theorem dX7_days_97 : decode cX7_days 97 = .ok (.aload_n 0, 1) := by decide +kernel
theorem dX7_days_98 : decode cX7_days 98 = .ok (.invokevirtual 168, 3) := by decide +kernel
theorem dX7_days_101 : decode cX7_days 101 = .ok (.istore_n 3, 1) := by decide +kernel
theorem dX7_days_102 : decode cX7_days 102 = .ok (.goto (-56), 3) := by decide +kernel
theorem dX7_days_105 : decode cX7_days 105 = .ok (.iload_n 2, 1) := by decide +kernel
theorem dX7_days_106 : decode cX7_days 106 = .ok (.ireturn, 1) := by decide +kernel
set_option maxRecDepth 20000 in
theorem ggX7_saidBy_X7_bitsIn : GoodIn wsX7_saidBy wsX7_bitsIn := goodIn_r _ [7] (by decide +kernel) (by decide +kernel)
set_option maxRecDepth 20000 in
theorem gX7_saidBy_X7_bitsIn : GoodIn wsX7_saidBy (va_wsS RX7 145 yX7_bitsIn wsX7_bitsIn) := goodIn_app (goodIn_of _ (by decide +kernel)) ggX7_saidBy_X7_bitsIn
theorem dX7_saidBy_0 : decode cX7_saidBy 0 = .ok (.iconst 0, 1) := by decide +kernel
theorem dX7_saidBy_1 : decode cX7_saidBy 1 = .ok (.istore 4, 2) := by decide +kernel
theorem dX7_saidBy_3 : decode cX7_saidBy 3 = .ok (.iconst 0, 1) := by decide +kernel
theorem dX7_saidBy_4 : decode cX7_saidBy 4 = .ok (.istore 5, 2) := by decide +kernel
theorem dX7_saidBy_6 : decode cX7_saidBy 6 = .ok (.iload 5, 2) := by decide +kernel
theorem dX7_saidBy_8 : decode cX7_saidBy 8 = .ok (.aload_n 0, 1) := by decide +kernel
theorem dX7_saidBy_9 : decode cX7_saidBy 9 = .ok (.getfield 20, 3) := by decide +kernel
theorem dX7_saidBy_12 : decode cX7_saidBy 12 = .ok (.iconst 0, 1) := by decide +kernel
theorem dX7_saidBy_13 : decode cX7_saidBy 13 = .ok (.iaload, 1) := by decide +kernel
theorem dX7_saidBy_14 : decode cX7_saidBy 14 = .ok (.if_icmp .ge 117, 3) := by decide +kernel
theorem dX7_saidBy_17 : decode cX7_saidBy 17 = .ok (.iload_n 1, 1) := by decide +kernel
theorem dX7_saidBy_18 : decode cX7_saidBy 18 = .ok (.iload 5, 2) := by decide +kernel
theorem dX7_saidBy_20 : decode cX7_saidBy 20 = .ok (.ishr, 1) := by decide +kernel
theorem dX7_saidBy_21 : decode cX7_saidBy 21 = .ok (.iconst 1, 1) := by decide +kernel
theorem dX7_saidBy_22 : decode cX7_saidBy 22 = .ok (.iand, 1) := by decide +kernel
theorem dX7_saidBy_23 : decode cX7_saidBy 23 = .ok (.iconst 1, 1) := by decide +kernel
theorem dX7_saidBy_24 : decode cX7_saidBy 24 = .ok (.if_icmp .ne 101, 3) := by decide +kernel
theorem dX7_saidBy_27 : decode cX7_saidBy 27 = .ok (.iload_n 2, 1) := by decide +kernel
theorem dX7_saidBy_28 : decode cX7_saidBy 28 = .ok (.aload_n 0, 1) := by decide +kernel
theorem dX7_saidBy_29 : decode cX7_saidBy 29 = .ok (.getfield 29, 3) := by decide +kernel
theorem dX7_saidBy_32 : decode cX7_saidBy 32 = .ok (.iload 5, 2) := by decide +kernel
theorem dX7_saidBy_34 : decode cX7_saidBy 34 = .ok (.iaload, 1) := by decide +kernel
theorem dX7_saidBy_35 : decode cX7_saidBy 35 = .ok (.ishr, 1) := by decide +kernel
theorem dX7_saidBy_36 : decode cX7_saidBy 36 = .ok (.iconst 1, 1) := by decide +kernel
theorem dX7_saidBy_37 : decode cX7_saidBy 37 = .ok (.iand, 1) := by decide +kernel
theorem dX7_saidBy_38 : decode cX7_saidBy 38 = .ok (.ifCond .eq 19, 3) := by decide +kernel
theorem dX7_saidBy_41 : decode cX7_saidBy 41 = .ok (.iload 4, 2) := by decide +kernel
theorem dX7_saidBy_43 : decode cX7_saidBy 43 = .ok (.aload_n 0, 1) := by decide +kernel
theorem dX7_saidBy_44 : decode cX7_saidBy 44 = .ok (.getfield 29, 3) := by decide +kernel
theorem dX7_saidBy_47 : decode cX7_saidBy 47 = .ok (.iload 5, 2) := by decide +kernel
theorem dX7_saidBy_49 : decode cX7_saidBy 49 = .ok (.iaload, 1) := by decide +kernel
theorem dX7_saidBy_50 : decode cX7_saidBy 50 = .ok (.ishr, 1) := by decide +kernel
theorem dX7_saidBy_51 : decode cX7_saidBy 51 = .ok (.iconst 1, 1) := by decide +kernel
theorem dX7_saidBy_52 : decode cX7_saidBy 52 = .ok (.iand, 1) := by decide +kernel
theorem dX7_saidBy_53 : decode cX7_saidBy 53 = .ok (.iconst 1, 1) := by decide +kernel
theorem dX7_saidBy_54 : decode cX7_saidBy 54 = .ok (.if_icmp .ne 6, 3) := by decide +kernel
theorem dX7_saidBy_57 : decode cX7_saidBy 57 = .ok (.bipush (-9), 2) := by decide +kernel
theorem dX7_saidBy_59 : decode cX7_saidBy 59 = .ok (.ireturn, 1) := by decide +kernel
theorem dX7_saidBy_60 : decode cX7_saidBy 60 = .ok (.iload 4, 2) := by decide +kernel
theorem dX7_saidBy_62 : decode cX7_saidBy 62 = .ok (.iconst 1, 1) := by decide +kernel
theorem dX7_saidBy_63 : decode cX7_saidBy 63 = .ok (.aload_n 0, 1) := by decide +kernel
theorem dX7_saidBy_64 : decode cX7_saidBy 64 = .ok (.getfield 29, 3) := by decide +kernel
theorem dX7_saidBy_67 : decode cX7_saidBy 67 = .ok (.iload 5, 2) := by decide +kernel
theorem dX7_saidBy_69 : decode cX7_saidBy 69 = .ok (.iaload, 1) := by decide +kernel
theorem dX7_saidBy_70 : decode cX7_saidBy 70 = .ok (.ishl, 1) := by decide +kernel
theorem dX7_saidBy_71 : decode cX7_saidBy 71 = .ok (.ior, 1) := by decide +kernel
theorem dX7_saidBy_72 : decode cX7_saidBy 72 = .ok (.istore 4, 2) := by decide +kernel
theorem dX7_saidBy_74 : decode cX7_saidBy 74 = .ok (.iconst 0, 1) := by decide +kernel
theorem dX7_saidBy_75 : decode cX7_saidBy 75 = .ok (.istore 6, 2) := by decide +kernel
theorem dX7_saidBy_77 : decode cX7_saidBy 77 = .ok (.iload 6, 2) := by decide +kernel
theorem dX7_saidBy_79 : decode cX7_saidBy 79 = .ok (.iload 5, 2) := by decide +kernel
theorem dX7_saidBy_81 : decode cX7_saidBy 81 = .ok (.if_icmp .ge 44, 3) := by decide +kernel
theorem dX7_saidBy_84 : decode cX7_saidBy 84 = .ok (.iload_n 1, 1) := by decide +kernel
theorem dX7_saidBy_85 : decode cX7_saidBy 85 = .ok (.iload 6, 2) := by decide +kernel
theorem dX7_saidBy_87 : decode cX7_saidBy 87 = .ok (.ishr, 1) := by decide +kernel
theorem dX7_saidBy_88 : decode cX7_saidBy 88 = .ok (.iconst 1, 1) := by decide +kernel
theorem dX7_saidBy_89 : decode cX7_saidBy 89 = .ok (.iand, 1) := by decide +kernel
theorem dX7_saidBy_90 : decode cX7_saidBy 90 = .ok (.iconst 1, 1) := by decide +kernel
theorem dX7_saidBy_91 : decode cX7_saidBy 91 = .ok (.if_icmp .ne 28, 3) := by decide +kernel
theorem dX7_saidBy_94 : decode cX7_saidBy 94 = .ok (.aload_n 0, 1) := by decide +kernel
theorem dX7_saidBy_95 : decode cX7_saidBy 95 = .ok (.getfield 26, 3) := by decide +kernel
theorem dX7_saidBy_98 : decode cX7_saidBy 98 = .ok (.iload 5, 2) := by decide +kernel
theorem dX7_saidBy_100 : decode cX7_saidBy 100 = .ok (.iaload, 1) := by decide +kernel
theorem dX7_saidBy_101 : decode cX7_saidBy 101 = .ok (.aload_n 0, 1) := by decide +kernel
theorem dX7_saidBy_102 : decode cX7_saidBy 102 = .ok (.getfield 26, 3) := by decide +kernel
theorem dX7_saidBy_105 : decode cX7_saidBy 105 = .ok (.iload 6, 2) := by decide +kernel
theorem dX7_saidBy_107 : decode cX7_saidBy 107 = .ok (.iaload, 1) := by decide +kernel
theorem dX7_saidBy_108 : decode cX7_saidBy 108 = .ok (.ixor, 1) := by decide +kernel
theorem dX7_saidBy_109 : decode cX7_saidBy 109 = .ok (.invokestatic 145, 3) := by decide +kernel
theorem dX7_saidBy_112 : decode cX7_saidBy 112 = .ok (.iload_n 3, 1) := by decide +kernel
theorem dX7_saidBy_113 : decode cX7_saidBy 113 = .ok (.if_icmp .ge 6, 3) := by decide +kernel
theorem dX7_saidBy_116 : decode cX7_saidBy 116 = .ok (.bipush (-9), 2) := by decide +kernel
theorem dX7_saidBy_118 : decode cX7_saidBy 118 = .ok (.ireturn, 1) := by decide +kernel
theorem dX7_saidBy_119 : decode cX7_saidBy 119 = .ok (.iinc 6 1, 3) := by decide +kernel
theorem dX7_saidBy_122 : decode cX7_saidBy 122 = .ok (.goto (-45), 3) := by decide +kernel
theorem dX7_saidBy_125 : decode cX7_saidBy 125 = .ok (.iinc 5 1, 3) := by decide +kernel
theorem dX7_saidBy_128 : decode cX7_saidBy 128 = .ok (.goto (-122), 3) := by decide +kernel
theorem dX7_saidBy_131 : decode cX7_saidBy 131 = .ok (.iload 4, 2) := by decide +kernel
theorem dX7_saidBy_133 : decode cX7_saidBy 133 = .ok (.ireturn, 1) := by decide +kernel
set_option maxRecDepth 20000 in
theorem ggX7_code_X7_in : GoodIn wsX7_code wsX7_in := goodIn_r _ [5] (by decide +kernel) (by decide +kernel)
set_option maxRecDepth 20000 in
theorem gX7_code_X7_in : GoodIn wsX7_code (va_wsS RX7 61 yX7_in wsX7_in) := goodIn_app (goodIn_of _ (by decide +kernel)) ggX7_code_X7_in
set_option maxRecDepth 20000 in
theorem ggX7_code_X7_saidBy : GoodIn wsX7_code wsX7_saidBy := goodIn_r _ [9, 1, 10, 11, 12, 13, 4, 14, 15, 16, 17, 18, 19, 20, 21, 22, 23, 24, 25, 26, 27, 28, 29, 30, 31, 32, 33, 34, 35, 36, 37, 38] (by decide +kernel) (by decide +kernel)
set_option maxRecDepth 20000 in
theorem gX7_code_X7_saidBy : GoodIn wsX7_code (wsV RX7 171 RX7 yX7_saidBy wsX7_saidBy) := goodIn_app (goodIn_of _ (by decide +kernel)) ggX7_code_X7_saidBy
set_option maxRecDepth 20000 in
theorem ggX7_code_X7_bitsIn : GoodIn wsX7_code wsX7_bitsIn := goodIn_r _ [14] (by decide +kernel) (by decide +kernel)
set_option maxRecDepth 20000 in
theorem gX7_code_X7_bitsIn : GoodIn wsX7_code (va_wsS RX7 145 yX7_bitsIn wsX7_bitsIn) := goodIn_app (goodIn_of _ (by decide +kernel)) ggX7_code_X7_bitsIn
theorem dX7_code_0 : decode cX7_code 0 = .ok (.iload_n 1, 1) := by decide +kernel
theorem dX7_code_1 : decode cX7_code 1 = .ok (.iconst 0, 1) := by decide +kernel
theorem dX7_code_2 : decode cX7_code 2 = .ok (.sipush 255, 3) := by decide +kernel
theorem dX7_code_5 : decode cX7_code 5 = .ok (.invokestatic 61, 3) := by decide +kernel
theorem dX7_code_8 : decode cX7_code 8 = .ok (.ifCond .eq 21, 3) := by decide +kernel
theorem dX7_code_11 : decode cX7_code 11 = .ok (.iload_n 2, 1) := by decide +kernel
theorem dX7_code_12 : decode cX7_code 12 = .ok (.iconst 1, 1) := by decide +kernel
theorem dX7_code_13 : decode cX7_code 13 = .ok (.iconst 3, 1) := by decide +kernel
theorem dX7_code_14 : decode cX7_code 14 = .ok (.invokestatic 61, 3) := by decide +kernel
theorem dX7_code_17 : decode cX7_code 17 = .ok (.ifCond .eq 12, 3) := by decide +kernel
theorem dX7_code_20 : decode cX7_code 20 = .ok (.iload_n 3, 1) := by decide +kernel
theorem dX7_code_21 : decode cX7_code 21 = .ok (.iconst 0, 1) := by decide +kernel
theorem dX7_code_22 : decode cX7_code 22 = .ok (.iconst 1, 1) := by decide +kernel
theorem dX7_code_23 : decode cX7_code 23 = .ok (.invokestatic 61, 3) := by decide +kernel
theorem dX7_code_26 : decode cX7_code 26 = .ok (.ifCond .ne 5, 3) := by decide +kernel
theorem dX7_code_29 : decode cX7_code 29 = .ok (.iconst (-1), 1) := by decide +kernel
theorem dX7_code_30 : decode cX7_code 30 = .ok (.ireturn, 1) := by decide +kernel
theorem dX7_code_31 : decode cX7_code 31 = .ok (.bipush (-9), 2) := by decide +kernel
theorem dX7_code_33 : decode cX7_code 33 = .ok (.istore 4, 2) := by decide +kernel
theorem dX7_code_35 : decode cX7_code 35 = .ok (.iconst 0, 1) := by decide +kernel
theorem dX7_code_36 : decode cX7_code 36 = .ok (.istore 5, 2) := by decide +kernel
theorem dX7_code_38 : decode cX7_code 38 = .ok (.iconst 1, 1) := by decide +kernel
theorem dX7_code_39 : decode cX7_code 39 = .ok (.aload_n 0, 1) := by decide +kernel
theorem dX7_code_40 : decode cX7_code 40 = .ok (.getfield 20, 3) := by decide +kernel
theorem dX7_code_43 : decode cX7_code 43 = .ok (.iconst 0, 1) := by decide +kernel
theorem dX7_code_44 : decode cX7_code 44 = .ok (.iaload, 1) := by decide +kernel
theorem dX7_code_45 : decode cX7_code 45 = .ok (.ishl, 1) := by decide +kernel
theorem dX7_code_46 : decode cX7_code 46 = .ok (.iconst 1, 1) := by decide +kernel
