theorem dX7_readItem_174 : decode cX7_readItem 174 = .ok (.bipush 7, 2) := by decide +kernel
theorem dX7_readItem_176 : decode cX7_readItem 176 = .ok (.invokevirtual 105, 3) := by decide +kernel
theorem dX7_readItem_179 : decode cX7_readItem 179 = .ok (.iastore, 1) := by decide +kernel
theorem dX7_readItem_180 : decode cX7_readItem 180 = .ok (.aload_n 0, 1) := by decide +kernel
theorem dX7_readItem_181 : decode cX7_readItem 181 = .ok (.getfield 29, 3) := by decide +kernel
theorem dX7_readItem_184 : decode cX7_readItem 184 = .ok (.iload_n 2, 1) := by decide +kernel
theorem dX7_readItem_185 : decode cX7_readItem 185 = .ok (.aload_n 0, 1) := by decide +kernel
theorem dX7_readItem_186 : decode cX7_readItem 186 = .ok (.bipush 7, 2) := by decide +kernel
theorem dX7_readItem_188 : decode cX7_readItem 188 = .ok (.invokevirtual 105, 3) := by decide +kernel
theorem dX7_readItem_191 : decode cX7_readItem 191 = .ok (.iastore, 1) := by decide +kernel
theorem dX7_readItem_192 : decode cX7_readItem 192 = .ok (.aload_n 0, 1) := by decide +kernel
theorem dX7_readItem_193 : decode cX7_readItem 193 = .ok (.getfield 20, 3) := by decide +kernel
theorem dX7_readItem_196 : decode cX7_readItem 196 = .ok (.iconst 1, 1) := by decide +kernel
theorem dX7_readItem_197 : decode cX7_readItem 197 = .ok (.dup2, 1) := by decide +kernel
theorem dX7_readItem_198 : decode cX7_readItem 198 = .ok (.iaload, 1) := by decide +kernel
theorem dX7_readItem_199 : decode cX7_readItem 199 = .ok (.iconst 1, 1) := by decide +kernel
theorem dX7_readItem_200 : decode cX7_readItem 200 = .ok (.iadd, 1) := by decide +kernel
theorem dX7_readItem_201 : decode cX7_readItem 201 = .ok (.iastore, 1) := by decide +kernel
theorem dX7_readItem_202 : decode cX7_readItem 202 = .ok (.goto 19, 3) := by decide +kernel
theorem dX7_readItem_205 : decode cX7_readItem 205 = .ok (.aload_n 0, 1) := by decide +kernel
theorem dX7_readItem_206 : decode cX7_readItem 206 = .ok (.getfield 32, 3) := by decide +kernel
theorem dX7_readItem_209 : decode cX7_readItem 209 = .ok (.iconst 1, 1) := by decide +kernel
theorem dX7_readItem_210 : decode cX7_readItem 210 = .ok (.aload_n 0, 1) := by decide +kernel
theorem dX7_readItem_211 : decode cX7_readItem 211 = .ok (.iconst 5, 1) := by decide +kernel
theorem dX7_readItem_212 : decode cX7_readItem 212 = .ok (.invokevirtual 105, 3) := by decide +kernel
theorem dX7_readItem_215 : decode cX7_readItem 215 = .ok (.iastore, 1) := by decide +kernel
theorem dX7_readItem_216 : decode cX7_readItem 216 = .ok (.aload_n 0, 1) := by decide +kernel
theorem dX7_readItem_217 : decode cX7_readItem 217 = .ok (.iconst 1, 1) := by decide +kernel
theorem dX7_readItem_218 : decode cX7_readItem 218 = .ok (.putfield 101, 3) := by decide +kernel
theorem dX7_readItem_221 : decode cX7_readItem 221 = .ok (.aload_n 0, 1) := by decide +kernel
theorem dX7_readItem_222 : decode cX7_readItem 222 = .ok (.aload_n 0, 1) := by decide +kernel
theorem dX7_readItem_223 : decode cX7_readItem 223 = .ok (.getfield 84, 3) := by decide +kernel
theorem dX7_readItem_226 : decode cX7_readItem 226 = .ok (.iconst 5, 1) := by decide +kernel
theorem dX7_readItem_227 : decode cX7_readItem 227 = .ok (.if_icmp .ne 7, 3) := by decide +kernel
theorem dX7_readItem_230 : decode cX7_readItem 230 = .ok (.iconst 1, 1) := by decide +kernel
theorem dX7_readItem_231 : decode cX7_readItem 231 = .ok (.goto 4, 3) := by decide +kernel
theorem dX7_readItem_234 : decode cX7_readItem 234 = .ok (.iconst 0, 1) := by decide +kernel
theorem dX7_readItem_235 : decode cX7_readItem 235 = .ok (.invokevirtual 97, 3) := by decide +kernel
theorem dX7_readItem_238 : decode cX7_readItem 238 = .ok (.pop, 1) := by decide +kernel
theorem dX7_readItem_239 : decode cX7_readItem 239 = .ok (.return_, 1) := by decide +kernel
theorem dX7_valley_0 : decode cX7_valley 0 = .ok (.aload_n 0, 1) := by decide +kernel
theorem dX7_valley_1 : decode cX7_valley 1 = .ok (.iconst 0, 1) := by decide +kernel
theorem dX7_valley_2 : decode cX7_valley 2 = .ok (.putfield 71, 3) := by decide +kernel
theorem dX7_valley_5 : decode cX7_valley 5 = .ok (.aload_n 0, 1) := by decide +kernel
theorem dX7_valley_6 : decode cX7_valley 6 = .ok (.bipush (-9), 2) := by decide +kernel
theorem dX7_valley_8 : decode cX7_valley 8 = .ok (.putfield 91, 3) := by decide +kernel
theorem dX7_valley_11 : decode cX7_valley 11 = .ok (.aload_n 0, 1) := by decide +kernel
theorem dX7_valley_12 : decode cX7_valley 12 = .ok (.getfield 13, 3) := by decide +kernel
theorem dX7_valley_15 : decode cX7_valley 15 = .ok (.iconst 1, 1) := by decide +kernel
theorem dX7_valley_16 : decode cX7_valley 16 = .ok (.iconst 0, 1) := by decide +kernel
theorem dX7_valley_17 : decode cX7_valley 17 = .ok (.iastore, 1) := by decide +kernel
theorem dX7_valley_18 : decode cX7_valley 18 = .ok (.aload_n 0, 1) := by decide +kernel
theorem dX7_valley_19 : decode cX7_valley 19 = .ok (.getfield 20, 3) := by decide +kernel
theorem dX7_valley_22 : decode cX7_valley 22 = .ok (.iconst 1, 1) := by decide +kernel
theorem dX7_valley_23 : decode cX7_valley 23 = .ok (.iconst 0, 1) := by decide +kernel
theorem dX7_valley_24 : decode cX7_valley 24 = .ok (.iastore, 1) := by decide +kernel
theorem dX7_valley_25 : decode cX7_valley 25 = .ok (.aload_n 0, 1) := by decide +kernel
theorem dX7_valley_26 : decode cX7_valley 26 = .ok (.getfield 32, 3) := by decide +kernel
theorem dX7_valley_29 : decode cX7_valley 29 = .ok (.iconst 1, 1) := by decide +kernel
theorem dX7_valley_30 : decode cX7_valley 30 = .ok (.iconst 0, 1) := by decide +kernel
theorem dX7_valley_31 : decode cX7_valley 31 = .ok (.iastore, 1) := by decide +kernel
theorem dX7_valley_32 : decode cX7_valley 32 = .ok (.aload_n 0, 1) := by decide +kernel
theorem dX7_valley_33 : decode cX7_valley 33 = .ok (.iconst 0, 1) := by decide +kernel
theorem dX7_valley_34 : decode cX7_valley 34 = .ok (.putfield 101, 3) := by decide +kernel
theorem dX7_valley_37 : decode cX7_valley 37 = .ok (.iconst 0, 1) := by decide +kernel
theorem dX7_valley_38 : decode cX7_valley 38 = .ok (.istore_n 1, 1) := by decide +kernel
theorem dX7_valley_39 : decode cX7_valley 39 = .ok (.aload_n 0, 1) := by decide +kernel
theorem dX7_valley_40 : decode cX7_valley 40 = .ok (.invokevirtual 94, 3) := by decide +kernel
theorem dX7_valley_43 : decode cX7_valley 43 = .ok (.aload_n 0, 1) := by decide +kernel
theorem dX7_valley_44 : decode cX7_valley 44 = .ok (.getfield 91, 3) := by decide +kernel
theorem dX7_valley_47 : decode cX7_valley 47 = .ok (.bipush (-9), 2) := by decide +kernel
theorem dX7_valley_49 : decode cX7_valley 49 = .ok (.if_icmp .ne 21, 3) := by decide +kernel
theorem dX7_valley_52 : decode cX7_valley 52 = .ok (.aload_n 0, 1) := by decide +kernel
theorem dX7_valley_53 : decode cX7_valley 53 = .ok (.getfield 84, 3) := by decide +kernel
theorem dX7_valley_56 : decode cX7_valley 56 = .ok (.iconst 3, 1) := by decide +kernel
theorem dX7_valley_57 : decode cX7_valley 57 = .ok (.if_icmp .eq 13, 3) := by decide +kernel
theorem dX7_valley_60 : decode cX7_valley 60 = .ok (.aload_n 0, 1) := by decide +kernel
theorem dX7_valley_61 : decode cX7_valley 61 = .ok (.invokevirtual 108, 3) := by decide +kernel
theorem dX7_valley_64 : decode cX7_valley 64 = .ok (.iinc 1 1, 3) := by decide +kernel
theorem dX7_valley_67 : decode cX7_valley 67 = .ok (.goto (-24), 3) := by decide +kernel
theorem dX7_valley_70 : decode cX7_valley 70 = .ok (.aload_n 0, 1) := by decide +kernel
theorem dX7_valley_71 : decode cX7_valley 71 = .ok (.getfield 91, 3) := by decide +kernel
theorem dX7_valley_74 : decode cX7_valley 74 = .ok (.bipush (-9), 2) := by decide +kernel
theorem dX7_valley_76 : decode cX7_valley 76 = .ok (.if_icmp .eq 11, 3) := by decide +kernel
theorem dX7_valley_79 : decode cX7_valley 79 = .ok (.bipush (-10), 2) := by decide +kernel
theorem dX7_valley_81 : decode cX7_valley 81 = .ok (.aload_n 0, 1) := by decide +kernel
theorem dX7_valley_82 : decode cX7_valley 82 = .ok (.getfield 91, 3) := by decide +kernel
theorem dX7_valley_85 : decode cX7_valley 85 = .ok (.isub, 1) := by decide +kernel
theorem dX7_valley_86 : decode cX7_valley 86 = .ok (.ireturn, 1) := by decide +kernel
theorem dX7_valley_87 : decode cX7_valley 87 = .ok (.aload_n 0, 1) := by decide +kernel
theorem dX7_valley_88 : decode cX7_valley 88 = .ok (.getfield 13, 3) := by decide +kernel
theorem dX7_valley_91 : decode cX7_valley 91 = .ok (.iconst 0, 1) := by decide +kernel
theorem dX7_valley_92 : decode cX7_valley 92 = .ok (.aload_n 0, 1) := by decide +kernel
theorem dX7_valley_93 : decode cX7_valley 93 = .ok (.getfield 13, 3) := by decide +kernel
theorem dX7_valley_96 : decode cX7_valley 96 = .ok (.iconst 1, 1) := by decide +kernel
theorem dX7_valley_97 : decode cX7_valley 97 = .ok (.iaload, 1) := by decide +kernel
theorem dX7_valley_98 : decode cX7_valley 98 = .ok (.iastore, 1) := by decide +kernel
theorem dX7_valley_99 : decode cX7_valley 99 = .ok (.aload_n 0, 1) := by decide +kernel
theorem dX7_valley_100 : decode cX7_valley 100 = .ok (.getfield 20, 3) := by decide +kernel
theorem dX7_valley_103 : decode cX7_valley 103 = .ok (.iconst 0, 1) := by decide +kernel
theorem dX7_valley_104 : decode cX7_valley 104 = .ok (.aload_n 0, 1) := by decide +kernel
theorem dX7_valley_105 : decode cX7_valley 105 = .ok (.getfield 20, 3) := by decide +kernel
theorem dX7_valley_108 : decode cX7_valley 108 = .ok (.iconst 1, 1) := by decide +kernel
theorem dX7_valley_109 : decode cX7_valley 109 = .ok (.iaload, 1) := by decide +kernel
theorem dX7_valley_110 : decode cX7_valley 110 = .ok (.iastore, 1) := by decide +kernel
theorem dX7_valley_111 : decode cX7_valley 111 = .ok (.iconst 0, 1) := by decide +kernel
theorem dX7_valley_112 : decode cX7_valley 112 = .ok (.istore_n 2, 1) := by decide +kernel
theorem dX7_valley_113 : decode cX7_valley 113 = .ok (.iload_n 2, 1) := by decide +kernel
theorem dX7_valley_114 : decode cX7_valley 114 = .ok (.bipush 30, 2) := by decide +kernel
theorem dX7_valley_116 : decode cX7_valley 116 = .ok (.if_icmp .ge 24, 3) := by decide +kernel
theorem dX7_valley_119 : decode cX7_valley 119 = .ok (.aload_n 0, 1) := by decide +kernel
theorem dX7_valley_120 : decode cX7_valley 120 = .ok (.getfield 35, 3) := by decide +kernel
theorem dX7_valley_123 : decode cX7_valley 123 = .ok (.iload_n 2, 1) := by decide +kernel
theorem dX7_valley_124 : decode cX7_valley 124 = .ok (.aload_n 0, 1) := by decide +kernel
theorem dX7_valley_125 : decode cX7_valley 125 = .ok (.getfield 17, 3) := by decide +kernel
theorem dX7_valley_128 : decode cX7_valley 128 = .ok (.bipush 30, 2) := by decide +kernel
theorem dX7_valley_130 : decode cX7_valley 130 = .ok (.iload_n 2, 1) := by decide +kernel
theorem dX7_valley_131 : decode cX7_valley 131 = .ok (.iadd, 1) := by decide +kernel
theorem dX7_valley_132 : decode cX7_valley 132 = .ok (.iaload, 1) := by decide +kernel
theorem dX7_valley_133 : decode cX7_valley 133 = .ok (.iastore, 1) := by decide +kernel
theorem dX7_valley_134 : decode cX7_valley 134 = .ok (.iinc 2 1, 3) := by decide +kernel
theorem dX7_valley_137 : decode cX7_valley 137 = .ok (.goto (-24), 3) := by decide +kernel
theorem dX7_valley_140 : decode cX7_valley 140 = .ok (.iconst 0, 1) := by decide +kernel
theorem dX7_valley_141 : decode cX7_valley 141 = .ok (.istore_n 2, 1) := by decide +kernel
theorem dX7_valley_142 : decode cX7_valley 142 = .ok (.iload_n 2, 1) := by decide +kernel
theorem dX7_valley_143 : decode cX7_valley 143 = .ok (.bipush 40, 2) := by decide +kernel
theorem dX7_valley_145 : decode cX7_valley 145 = .ok (.if_icmp .ge 24, 3) := by decide +kernel
theorem dX7_valley_148 : decode cX7_valley 148 = .ok (.aload_n 0, 1) := by decide +kernel
theorem dX7_valley_149 : decode cX7_valley 149 = .ok (.getfield 23, 3) := by decide +kernel
theorem dX7_valley_152 : decode cX7_valley 152 = .ok (.iload_n 2, 1) := by decide +kernel
theorem dX7_valley_153 : decode cX7_valley 153 = .ok (.aload_n 0, 1) := by decide +kernel
theorem dX7_valley_154 : decode cX7_valley 154 = .ok (.getfield 23, 3) := by decide +kernel
theorem dX7_valley_157 : decode cX7_valley 157 = .ok (.bipush 40, 2) := by decide +kernel
theorem dX7_valley_159 : decode cX7_valley 159 = .ok (.iload_n 2, 1) := by decide +kernel
theorem dX7_valley_160 : decode cX7_valley 160 = .ok (.iadd, 1) := by decide +kernel
theorem dX7_valley_161 : decode cX7_valley 161 = .ok (.iaload, 1) := by decide +kernel
theorem dX7_valley_162 : decode cX7_valley 162 = .ok (.iastore, 1) := by decide +kernel
theorem dX7_valley_163 : decode cX7_valley 163 = .ok (.iinc 2 1, 3) := by decide +kernel
theorem dX7_valley_166 : decode cX7_valley 166 = .ok (.goto (-24), 3) := by decide +kernel
theorem dX7_valley_169 : decode cX7_valley 169 = .ok (.iconst 0, 1) := by decide +kernel
theorem dX7_valley_170 : decode cX7_valley 170 = .ok (.istore_n 2, 1) := by decide +kernel
theorem dX7_valley_171 : decode cX7_valley 171 = .ok (.iload_n 2, 1) := by decide +kernel
theorem dX7_valley_172 : decode cX7_valley 172 = .ok (.bipush 8, 2) := by decide +kernel
theorem dX7_valley_174 : decode cX7_valley 174 = .ok (.if_icmp .ge 39, 3) := by decide +kernel
theorem dX7_valley_177 : decode cX7_valley 177 = .ok (.aload_n 0, 1) := by decide +kernel
theorem dX7_valley_178 : decode cX7_valley 178 = .ok (.getfield 26, 3) := by decide +kernel
theorem dX7_valley_181 : decode cX7_valley 181 = .ok (.iload_n 2, 1) := by decide +kernel
theorem dX7_valley_182 : decode cX7_valley 182 = .ok (.aload_n 0, 1) := by decide +kernel
theorem dX7_valley_183 : decode cX7_valley 183 = .ok (.getfield 26, 3) := by decide +kernel
theorem dX7_valley_186 : decode cX7_valley 186 = .ok (.bipush 8, 2) := by decide +kernel
theorem dX7_valley_188 : decode cX7_valley 188 = .ok (.iload_n 2, 1) := by decide +kernel
theorem dX7_valley_189 : decode cX7_valley 189 = .ok (.iadd, 1) := by decide +kernel
theorem dX7_valley_190 : decode cX7_valley 190 = .ok (.iaload, 1) := by decide +kernel
theorem dX7_valley_191 : decode cX7_valley 191 = .ok (.iastore, 1) := by decide +kernel
theorem dX7_valley_192 : decode cX7_valley 192 = .ok (.aload_n 0, 1) := by decide +kernel
theorem dX7_valley_193 : decode cX7_valley 193 = .ok (.getfield 29, 3) := by decide +kernel
theorem dX7_valley_196 : decode cX7_valley 196 = .ok (.iload_n 2, 1) := by decide +kernel
theorem dX7_valley_197 : decode cX7_valley 197 = .ok (.aload_n 0, 1) := by decide +kernel
theorem dX7_valley_198 : decode cX7_valley 198 = .ok (.getfield 29, 3) := by decide +kernel
theorem dX7_valley_201 : decode cX7_valley 201 = .ok (.bipush 8, 2) := by decide +kernel
theorem dX7_valley_203 : decode cX7_valley 203 = .ok (.iload_n 2, 1) := by decide +kernel
theorem dX7_valley_204 : decode cX7_valley 204 = .ok (.iadd, 1) := by decide +kernel
theorem dX7_valley_205 : decode cX7_valley 205 = .ok (.iaload, 1) := by decide +kernel
theorem dX7_valley_206 : decode cX7_valley 206 = .ok (.iastore, 1) := by decide +kernel
theorem dX7_valley_207 : decode cX7_valley 207 = .ok (.iinc 2 1, 3) := by decide +kernel
theorem dX7_valley_210 : decode cX7_valley 210 = .ok (.goto (-39), 3) := by decide +kernel
theorem dX7_valley_213 : decode cX7_valley 213 = .ok (.aload_n 0, 1) := by decide +kernel
theorem dX7_valley_214 : decode cX7_valley 214 = .ok (.getfield 35, 3) := by decide +kernel
theorem dX7_valley_217 : decode cX7_valley 217 = .ok (.bipush 30, 2) := by decide +kernel
theorem dX7_valley_219 : decode cX7_valley 219 = .ok (.aload_n 0, 1) := by decide +kernel
theorem dX7_valley_220 : decode cX7_valley 220 = .ok (.getfield 32, 3) := by decide +kernel
theorem dX7_valley_223 : decode cX7_valley 223 = .ok (.iconst 1, 1) := by decide +kernel
theorem dX7_valley_224 : decode cX7_valley 224 = .ok (.iaload, 1) := by decide +kernel
theorem dX7_valley_225 : decode cX7_valley 225 = .ok (.iastore, 1) := by decide +kernel
theorem dX7_valley_226 : decode cX7_valley 226 = .ok (.aload_n 0, 1) := by decide +kernel
theorem dX7_valley_227 : decode cX7_valley 227 = .ok (.getfield 35, 3) := by decide +kernel
theorem dX7_valley_230 : decode cX7_valley 230 = .ok (.bipush 32, 2) := by decide +kernel
theorem dX7_valley_232 : decode cX7_valley 232 = .ok (.iconst 0, 1) := by decide +kernel
theorem dX7_valley_233 : decode cX7_valley 233 = .ok (.iastore, 1) := by decide +kernel
theorem dX7_valley_234 : decode cX7_valley 234 = .ok (.aload_n 0, 1) := by decide +kernel
theorem dX7_valley_235 : decode cX7_valley 235 = .ok (.getfield 38, 3) := by decide +kernel
theorem dX7_valley_238 : decode cX7_valley 238 = .ok (.iconst 0, 1) := by decide +kernel
theorem dX7_valley_239 : decode cX7_valley 239 = .ok (.iconst 0, 1) := by decide +kernel
theorem dX7_valley_240 : decode cX7_valley 240 = .ok (.bastore, 1) := by decide +kernel
theorem dX7_valley_241 : decode cX7_valley 241 = .ok (.aload_n 0, 1) := by decide +kernel
theorem dX7_valley_242 : decode cX7_valley 242 = .ok (.getfield 38, 3) := by decide +kernel
theorem dX7_valley_245 : decode cX7_valley 245 = .ok (.iconst 1, 1) := by decide +kernel
theorem dX7_valley_246 : decode cX7_valley 246 = .ok (.iconst 0, 1) := by decide +kernel
theorem dX7_valley_247 : decode cX7_valley 247 = .ok (.bastore, 1) := by decide +kernel
theorem dX7_valley_248 : decode cX7_valley 248 = .ok (.aload_n 0, 1) := by decide +kernel
theorem dX7_valley_249 : decode cX7_valley 249 = .ok (.iconst 0, 1) := by decide +kernel
theorem dX7_valley_250 : decode cX7_valley 250 = .ok (.putfield 65, 3) := by decide +kernel
theorem dX7_valley_253 : decode cX7_valley 253 = .ok (.iload_n 1, 1) := by decide +kernel
theorem dX7_valley_254 : decode cX7_valley 254 = .ok (.ireturn, 1) := by decide +kernel
theorem dX7_isHouse_0 : decode cX7_isHouse 0 = .ok (.iload_n 1, 1) := by decide +kernel
theorem dX7_isHouse_1 : decode cX7_isHouse 1 = .ok (.iconst 0, 1) := by decide +kernel
theorem dX7_isHouse_2 : decode cX7_isHouse 2 = .ok (.aload_n 0, 1) := by decide +kernel
theorem dX7_isHouse_3 : decode cX7_isHouse 3 = .ok (.getfield 13, 3) := by decide +kernel
theorem dX7_isHouse_6 : decode cX7_isHouse 6 = .ok (.iconst 0, 1) := by decide +kernel
theorem dX7_isHouse_7 : decode cX7_isHouse 7 = .ok (.iaload, 1) := by decide +kernel
theorem dX7_isHouse_8 : decode cX7_isHouse 8 = .ok (.iconst 1, 1) := by decide +kernel
theorem dX7_isHouse_9 : decode cX7_isHouse 9 = .ok (.isub, 1) := by decide +kernel
theorem dX7_isHouse_10 : decode cX7_isHouse 10 = .ok (.invokestatic 61, 3) := by decide +kernel
theorem dX7_isHouse_13 : decode cX7_isHouse 13 = .ok (.ireturn, 1) := by decide +kernel
theorem dX7_isDish_0 : decode cX7_isDish 0 = .ok (.iload_n 1, 1) := by decide +kernel
theorem dX7_isDish_1 : decode cX7_isDish 1 = .ok (.iconst 0, 1) := by decide +kernel
theorem dX7_isDish_2 : decode cX7_isDish 2 = .ok (.aload_n 0, 1) := by decide +kernel
theorem dX7_isDish_3 : decode cX7_isDish 3 = .ok (.getfield 20, 3) := by decide +kernel
theorem dX7_isDish_6 : decode cX7_isDish 6 = .ok (.iconst 0, 1) := by decide +kernel
theorem dX7_isDish_7 : decode cX7_isDish 7 = .ok (.iaload, 1) := by decide +kernel
theorem dX7_isDish_8 : decode cX7_isDish 8 = .ok (.iconst 1, 1) := by decide +kernel
theorem dX7_isDish_9 : decode cX7_isDish 9 = .ok (.isub, 1) := by decide +kernel
theorem dX7_isDish_10 : decode cX7_isDish 10 = .ok (.invokestatic 61, 3) := by decide +kernel
theorem dX7_isDish_13 : decode cX7_isDish 13 = .ok (.ireturn, 1) := by decide +kernel
theorem dX7_isSmoke_0 : decode cX7_isSmoke 0 = .ok (.iload_n 0, 1) := by decide +kernel
theorem dX7_isSmoke_1 : decode cX7_isSmoke 1 = .ok (.iconst 0, 1) := by decide +kernel
theorem dX7_isSmoke_2 : decode cX7_isSmoke 2 = .ok (.bipush 7, 2) := by decide +kernel
theorem dX7_isSmoke_4 : decode cX7_isSmoke 4 = .ok (.invokestatic 61, 3) := by decide +kernel
theorem dX7_isSmoke_7 : decode cX7_isSmoke 7 = .ok (.ireturn, 1) := by decide +kernel
theorem dX7_unitsOf_0 : decode cX7_unitsOf 0 = .ok (.iconst 0, 1) := by decide +kernel
theorem dX7_unitsOf_1 : decode cX7_unitsOf 1 = .ok (.istore_n 2, 1) := by decide +kernel
theorem dX7_unitsOf_2 : decode cX7_unitsOf 2 = .ok (.iconst 0, 1) := by decide +kernel
theorem dX7_unitsOf_3 : decode cX7_unitsOf 3 = .ok (.istore_n 3, 1) := by decide +kernel
theorem dX7_unitsOf_4 : decode cX7_unitsOf 4 = .ok (.iload_n 3, 1) := by decide +kernel
theorem dX7_unitsOf_5 : decode cX7_unitsOf 5 = .ok (.iconst 5, 1) := by decide +kernel
theorem dX7_unitsOf_6 : decode cX7_unitsOf 6 = .ok (.if_icmp .ge 22, 3) := by decide +kernel
theorem dX7_unitsOf_9 : decode cX7_unitsOf 9 = .ok (.iload_n 2, 1) := by decide +kernel
theorem dX7_unitsOf_10 : decode cX7_unitsOf 10 = .ok (.aload_n 0, 1) := by decide +kernel
theorem dX7_unitsOf_11 : decode cX7_unitsOf 11 = .ok (.getfield 23, 3) := by decide +kernel
theorem dX7_unitsOf_14 : decode cX7_unitsOf 14 = .ok (.iconst 5, 1) := by decide +kernel
theorem dX7_unitsOf_15 : decode cX7_unitsOf 15 = .ok (.iload_n 1, 1) := by decide +kernel
theorem dX7_unitsOf_16 : decode cX7_unitsOf 16 = .ok (.imul, 1) := by decide +kernel
theorem dX7_unitsOf_17 : decode cX7_unitsOf 17 = .ok (.iload_n 3, 1) := by decide +kernel
theorem dX7_unitsOf_18 : decode cX7_unitsOf 18 = .ok (.iadd, 1) := by decide +kernel
theorem dX7_unitsOf_19 : decode cX7_unitsOf 19 = .ok (.iaload, 1) := by decide +kernel
theorem dX7_unitsOf_20 : decode cX7_unitsOf 20 = .ok (.iadd, 1) := by decide +kernel
theorem dX7_unitsOf_21 : decode cX7_unitsOf 21 = .ok (.istore_n 2, 1) := by decide +kernel
theorem dX7_unitsOf_22 : decode cX7_unitsOf 22 = .ok (.iinc 3 1, 3) := by decide +kernel
theorem dX7_unitsOf_25 : decode cX7_unitsOf 25 = .ok (.goto (-21), 3) := by decide +kernel
theorem dX7_unitsOf_28 : decode cX7_unitsOf 28 = .ok (.iload_n 2, 1) := by decide +kernel
theorem dX7_unitsOf_29 : decode cX7_unitsOf 29 = .ok (.ireturn, 1) := by decide +kernel
theorem dX7_storeOf_0 : decode cX7_storeOf 0 = .ok (.iconst 0, 1) := by decide +kernel
theorem dX7_storeOf_1 : decode cX7_storeOf 1 = .ok (.istore_n 2, 1) := by decide +kernel
theorem dX7_storeOf_2 : decode cX7_storeOf 2 = .ok (.iconst 0, 1) := by decide +kernel
theorem dX7_storeOf_3 : decode cX7_storeOf 3 = .ok (.istore_n 3, 1) := by decide +kernel
theorem dX7_storeOf_4 : decode cX7_storeOf 4 = .ok (.iload_n 3, 1) := by decide +kernel
theorem dX7_storeOf_5 : decode cX7_storeOf 5 = .ok (.iconst 5, 1) := by decide +kernel
theorem dX7_storeOf_6 : decode cX7_storeOf 6 = .ok (.if_icmp .ge 22, 3) := by decide +kernel
theorem dX7_storeOf_9 : decode cX7_storeOf 9 = .ok (.iload_n 2, 1) := by decide +kernel
theorem dX7_storeOf_10 : decode cX7_storeOf 10 = .ok (.aload_n 0, 1) := by decide +kernel
theorem dX7_storeOf_11 : decode cX7_storeOf 11 = .ok (.getfield 35, 3) := by decide +kernel
theorem dX7_storeOf_14 : decode cX7_storeOf 14 = .ok (.iconst 5, 1) := by decide +kernel
theorem dX7_storeOf_15 : decode cX7_storeOf 15 = .ok (.iload_n 1, 1) := by decide +kernel
theorem dX7_storeOf_16 : decode cX7_storeOf 16 = .ok (.imul, 1) := by decide +kernel
theorem dX7_storeOf_17 : decode cX7_storeOf 17 = .ok (.iload_n 3, 1) := by decide +kernel
theorem dX7_storeOf_18 : decode cX7_storeOf 18 = .ok (.iadd, 1) := by decide +kernel
theorem dX7_storeOf_19 : decode cX7_storeOf 19 = .ok (.iaload, 1) := by decide +kernel
theorem dX7_storeOf_20 : decode cX7_storeOf 20 = .ok (.iadd, 1) := by decide +kernel
theorem dX7_storeOf_21 : decode cX7_storeOf 21 = .ok (.istore_n 2, 1) := by decide +kernel
theorem dX7_storeOf_22 : decode cX7_storeOf 22 = .ok (.iinc 3 1, 3) := by decide +kernel
theorem dX7_storeOf_25 : decode cX7_storeOf 25 = .ok (.goto (-21), 3) := by decide +kernel
theorem dX7_storeOf_28 : decode cX7_storeOf 28 = .ok (.iload_n 2, 1) := by decide +kernel
theorem dX7_storeOf_29 : decode cX7_storeOf 29 = .ok (.ireturn, 1) := by decide +kernel
theorem dX7_house_0 : decode cX7_house 0 = .ok (.aload_n 0, 1) := by decide +kernel
theorem dX7_house_1 : decode cX7_house 1 = .ok (.iload_n 1, 1) := by decide +kernel
theorem dX7_house_2 : decode cX7_house 2 = .ok (.invokevirtual 111, 3) := by decide +kernel
theorem dX7_house_5 : decode cX7_house 5 = .ok (.ifCond .eq 12, 3) := by decide +kernel
theorem dX7_house_8 : decode cX7_house 8 = .ok (.iload_n 2, 1) := by decide +kernel
theorem dX7_house_9 : decode cX7_house 9 = .ok (.iconst 0, 1) := by decide +kernel
theorem dX7_house_10 : decode cX7_house 10 = .ok (.iconst 5, 1) := by decide +kernel
theorem dX7_house_11 : decode cX7_house 11 = .ok (.invokestatic 61, 3) := by decide +kernel
theorem dX7_house_14 : decode cX7_house 14 = .ok (.ifCond .ne 5, 3) := by decide +kernel
theorem dX7_house_17 : decode cX7_house 17 = .ok (.iconst (-1), 1) := by decide +kernel
theorem dX7_house_18 : decode cX7_house 18 = .ok (.ireturn, 1) := by decide +kernel
theorem dX7_house_19 : decode cX7_house 19 = .ok (.iload_n 2, 1) := by decide +kernel
theorem dX7_house_20 : decode cX7_house 20 = .ok (.iconst 5, 1) := by decide +kernel
theorem dX7_house_21 : decode cX7_house 21 = .ok (.if_icmp .ge 16, 3) := by decide +kernel
theorem dX7_house_24 : decode cX7_house 24 = .ok (.aload_n 0, 1) := by decide +kernel
theorem dX7_house_25 : decode cX7_house 25 = .ok (.getfield 35, 3) := by decide +kernel
theorem dX7_house_28 : decode cX7_house 28 = .ok (.iconst 5, 1) := by decide +kernel
theorem dX7_house_29 : decode cX7_house 29 = .ok (.iload_n 1, 1) := by decide +kernel
theorem dX7_house_30 : decode cX7_house 30 = .ok (.imul, 1) := by decide +kernel
theorem dX7_house_31 : decode cX7_house 31 = .ok (.iload_n 2, 1) := by decide +kernel
theorem dX7_house_32 : decode cX7_house 32 = .ok (.iadd, 1) := by decide +kernel
theorem dX7_house_33 : decode cX7_house 33 = .ok (.iaload, 1) := by decide +kernel
theorem dX7_house_34 : decode cX7_house 34 = .ok (.goto 8, 3) := by decide +kernel
theorem dX7_house_37 : decode cX7_house 37 = .ok (.aload_n 0, 1) := by decide +kernel
theorem dX7_house_38 : decode cX7_house 38 = .ok (.iload_n 1, 1) := by decide +kernel
theorem dX7_house_39 : decode cX7_house 39 = .ok (.invokevirtual 115, 3) := by decide +kernel
theorem dX7_house_42 : decode cX7_house 42 = .ok (.ireturn, 1) := by decide +kernel
theorem dX7_dish_0 : decode cX7_dish 0 = .ok (.aload_n 0, 1) := by decide +kernel
theorem dX7_dish_1 : decode cX7_dish 1 = .ok (.iload_n 1, 1) := by decide +kernel
theorem dX7_dish_2 : decode cX7_dish 2 = .ok (.invokevirtual 118, 3) := by decide +kernel
theorem dX7_dish_5 : decode cX7_dish 5 = .ok (.ifCond .eq 13, 3) := by decide +kernel
theorem dX7_dish_8 : decode cX7_dish 8 = .ok (.iload_n 2, 1) := by decide +kernel
theorem dX7_dish_9 : decode cX7_dish 9 = .ok (.iconst 0, 1) := by decide +kernel
theorem dX7_dish_10 : decode cX7_dish 10 = .ok (.bipush 7, 2) := by decide +kernel
theorem dX7_dish_12 : decode cX7_dish 12 = .ok (.invokestatic 61, 3) := by decide +kernel
theorem dX7_dish_15 : decode cX7_dish 15 = .ok (.ifCond .ne 5, 3) := by decide +kernel
theorem dX7_dish_18 : decode cX7_dish 18 = .ok (.iconst (-1), 1) := by decide +kernel
theorem dX7_dish_19 : decode cX7_dish 19 = .ok (.ireturn, 1) := by decide +kernel
theorem dX7_dish_20 : decode cX7_dish 20 = .ok (.iload_n 2, 1) := by decide +kernel
theorem dX7_dish_21 : decode cX7_dish 21 = .ok (.iconst 5, 1) := by decide +kernel
theorem dX7_dish_22 : decode cX7_dish 22 = .ok (.if_icmp .ge 16, 3) := by decide +kernel
theorem dX7_dish_25 : decode cX7_dish 25 = .ok (.aload_n 0, 1) := by decide +kernel
theorem dX7_dish_26 : decode cX7_dish 26 = .ok (.getfield 23, 3) := by decide +kernel
theorem dX7_dish_29 : decode cX7_dish 29 = .ok (.iconst 5, 1) := by decide +kernel
theorem dX7_dish_30 : decode cX7_dish 30 = .ok (.iload_n 1, 1) := by decide +kernel
theorem dX7_dish_31 : decode cX7_dish 31 = .ok (.imul, 1) := by decide +kernel
theorem dX7_dish_32 : decode cX7_dish 32 = .ok (.iload_n 2, 1) := by decide +kernel
theorem dX7_dish_33 : decode cX7_dish 33 = .ok (.iadd, 1) := by decide +kernel
theorem dX7_dish_34 : decode cX7_dish 34 = .ok (.iaload, 1) := by decide +kernel
theorem dX7_dish_35 : decode cX7_dish 35 = .ok (.goto 37, 3) := by decide +kernel
theorem dX7_dish_38 : decode cX7_dish 38 = .ok (.iload_n 2, 1) := by decide +kernel
theorem dX7_dish_39 : decode cX7_dish 39 = .ok (.iconst 5, 1) := by decide +kernel
theorem dX7_dish_40 : decode cX7_dish 40 = .ok (.if_icmp .ne 12, 3) := by decide +kernel
theorem dX7_dish_43 : decode cX7_dish 43 = .ok (.aload_n 0, 1) := by decide +kernel
theorem dX7_dish_44 : decode cX7_dish 44 = .ok (.getfield 26, 3) := by decide +kernel
theorem dX7_dish_47 : decode cX7_dish 47 = .ok (.iload_n 1, 1) := by decide +kernel
theorem dX7_dish_48 : decode cX7_dish 48 = .ok (.iaload, 1) := by decide +kernel
theorem dX7_dish_49 : decode cX7_dish 49 = .ok (.goto 23, 3) := by decide +kernel
theorem dX7_dish_52 : decode cX7_dish 52 = .ok (.iload_n 2, 1) := by decide +kernel
theorem dX7_dish_53 : decode cX7_dish 53 = .ok (.bipush 6, 2) := by decide +kernel
theorem dX7_dish_55 : decode cX7_dish 55 = .ok (.if_icmp .ne 12, 3) := by decide +kernel
theorem dX7_dish_58 : decode cX7_dish 58 = .ok (.aload_n 0, 1) := by decide +kernel
theorem dX7_dish_59 : decode cX7_dish 59 = .ok (.getfield 29, 3) := by decide +kernel
theorem dX7_dish_62 : decode cX7_dish 62 = .ok (.iload_n 1, 1) := by decide +kernel
theorem dX7_dish_63 : decode cX7_dish 63 = .ok (.iaload, 1) := by decide +kernel
theorem dX7_dish_64 : decode cX7_dish 64 = .ok (.goto 8, 3) := by decide +kernel
theorem dX7_dish_67 : decode cX7_dish 67 = .ok (.aload_n 0, 1) := by decide +kernel
theorem dX7_dish_68 : decode cX7_dish 68 = .ok (.iload_n 1, 1) := by decide +kernel
theorem dX7_dish_69 : decode cX7_dish 69 = .ok (.invokevirtual 121, 3) := by decide +kernel
theorem dX7_dish_72 : decode cX7_dish 72 = .ok (.ireturn, 1) := by decide +kernel
theorem dX7_canCook_0 : decode cX7_canCook 0 = .ok (.iconst 1, 1) := by decide +kernel
theorem dX7_canCook_1 : decode cX7_canCook 1 = .ok (.istore_n 3, 1) := by decide +kernel
theorem dX7_canCook_2 : decode cX7_canCook 2 = .ok (.iconst 0, 1) := by decide +kernel
theorem dX7_canCook_3 : decode cX7_canCook 3 = .ok (.istore 4, 2) := by decide +kernel
theorem dX7_canCook_5 : decode cX7_canCook 5 = .ok (.iload 4, 2) := by decide +kernel
theorem dX7_canCook_7 : decode cX7_canCook 7 = .ok (.iconst 5, 1) := by decide +kernel
theorem dX7_canCook_8 : decode cX7_canCook 8 = .ok (.if_icmp .ge 44, 3) := by decide +kernel
theorem dX7_canCook_11 : decode cX7_canCook 11 = .ok (.iload_n 3, 1) := by decide +kernel
theorem dX7_canCook_12 : decode cX7_canCook 12 = .ok (.ifCond .eq 32, 3) := by decide +kernel
theorem dX7_canCook_15 : decode cX7_canCook 15 = .ok (.aload_n 0, 1) := by decide +kernel
theorem dX7_canCook_16 : decode cX7_canCook 16 = .ok (.getfield 35, 3) := by decide +kernel
theorem dX7_canCook_19 : decode cX7_canCook 19 = .ok (.iconst 5, 1) := by decide +kernel
theorem dX7_canCook_20 : decode cX7_canCook 20 = .ok (.iload_n 1, 1) := by decide +kernel
theorem dX7_canCook_21 : decode cX7_canCook 21 = .ok (.imul, 1) := by decide +kernel
theorem dX7_canCook_22 : decode cX7_canCook 22 = .ok (.iload 4, 2) := by decide +kernel
theorem dX7_canCook_24 : decode cX7_canCook 24 = .ok (.iadd, 1) := by decide +kernel
theorem dX7_canCook_25 : decode cX7_canCook 25 = .ok (.iaload, 1) := by decide +kernel
theorem dX7_canCook_26 : decode cX7_canCook 26 = .ok (.aload_n 0, 1) := by decide +kernel
theorem dX7_canCook_27 : decode cX7_canCook 27 = .ok (.getfield 23, 3) := by decide +kernel
theorem dX7_canCook_30 : decode cX7_canCook 30 = .ok (.iconst 5, 1) := by decide +kernel
theorem dX7_canCook_31 : decode cX7_canCook 31 = .ok (.iload_n 2, 1) := by decide +kernel
theorem dX7_canCook_32 : decode cX7_canCook 32 = .ok (.imul, 1) := by decide +kernel
theorem dX7_canCook_33 : decode cX7_canCook 33 = .ok (.iload 4, 2) := by decide +kernel
theorem dX7_canCook_35 : decode cX7_canCook 35 = .ok (.iadd, 1) := by decide +kernel
theorem dX7_canCook_36 : decode cX7_canCook 36 = .ok (.iaload, 1) := by decide +kernel
theorem dX7_canCook_37 : decode cX7_canCook 37 = .ok (.if_icmp .lt 7, 3) := by decide +kernel
theorem dX7_canCook_40 : decode cX7_canCook 40 = .ok (.iconst 1, 1) := by decide +kernel
theorem dX7_canCook_41 : decode cX7_canCook 41 = .ok (.goto 4, 3) := by decide +kernel
theorem dX7_canCook_44 : decode cX7_canCook 44 = .ok (.iconst 0, 1) := by decide +kernel
theorem dX7_canCook_45 : decode cX7_canCook 45 = .ok (.istore_n 3, 1) := by decide +kernel
theorem dX7_canCook_46 : decode cX7_canCook 46 = .ok (.iinc 4 1, 3) := by decide +kernel
theorem dX7_canCook_49 : decode cX7_canCook 49 = .ok (.goto (-44), 3) := by decide +kernel
theorem dX7_canCook_52 : decode cX7_canCook 52 = .ok (.iload_n 3, 1) := by decide +kernel
theorem dX7_canCook_53 : decode cX7_canCook 53 = .ok (.ireturn, 1) := by decide +kernel
theorem dX7_cook_0 : decode cX7_cook 0 = .ok (.aload_n 0, 1) := by decide +kernel
theorem dX7_cook_1 : decode cX7_cook 1 = .ok (.iload_n 1, 1) := by decide +kernel
theorem dX7_cook_2 : decode cX7_cook 2 = .ok (.invokevirtual 111, 3) := by decide +kernel
theorem dX7_cook_5 : decode cX7_cook 5 = .ok (.ifCond .eq 11, 3) := by decide +kernel
theorem dX7_cook_8 : decode cX7_cook 8 = .ok (.aload_n 0, 1) := by decide +kernel
theorem dX7_cook_9 : decode cX7_cook 9 = .ok (.iload_n 2, 1) := by decide +kernel
theorem dX7_cook_10 : decode cX7_cook 10 = .ok (.invokevirtual 118, 3) := by decide +kernel
theorem dX7_cook_13 : decode cX7_cook 13 = .ok (.ifCond .ne 5, 3) := by decide +kernel
theorem dX7_cook_16 : decode cX7_cook 16 = .ok (.iconst (-1), 1) := by decide +kernel
theorem dX7_cook_17 : decode cX7_cook 17 = .ok (.ireturn, 1) := by decide +kernel
theorem dX7_cook_18 : decode cX7_cook 18 = .ok (.aload_n 0, 1) := by decide +kernel
theorem dX7_cook_19 : decode cX7_cook 19 = .ok (.iload_n 1, 1) := by decide +kernel
theorem dX7_cook_20 : decode cX7_cook 20 = .ok (.iload_n 2, 1) := by decide +kernel
theorem dX7_cook_21 : decode cX7_cook 21 = .ok (.invokevirtual 124, 3) := by decide +kernel
theorem dX7_cook_24 : decode cX7_cook 24 = .ok (.ifCond .ne 6, 3) := by decide +kernel
theorem dX7_cook_27 : decode cX7_cook 27 = .ok (.bipush (-2), 2) := by decide +kernel
theorem dX7_cook_29 : decode cX7_cook 29 = .ok (.ireturn, 1) := by decide +kernel
theorem dX7_cook_30 : decode cX7_cook 30 = .ok (.aload_n 0, 1) := by decide +kernel
theorem dX7_cook_31 : decode cX7_cook 31 = .ok (.getfield 35, 3) := by decide +kernel
theorem dX7_cook_34 : decode cX7_cook 34 = .ok (.bipush 32, 2) := by decide +kernel
theorem dX7_cook_36 : decode cX7_cook 36 = .ok (.iaload, 1) := by decide +kernel
theorem dX7_cook_37 : decode cX7_cook 37 = .ok (.bipush 20, 2) := by decide +kernel
theorem dX7_cook_39 : decode cX7_cook 39 = .ok (.if_icmp .ne 6, 3) := by decide +kernel
theorem dX7_cook_42 : decode cX7_cook 42 = .ok (.bipush (-3), 2) := by decide +kernel
theorem dX7_cook_44 : decode cX7_cook 44 = .ok (.ireturn, 1) := by decide +kernel
theorem dX7_cook_45 : decode cX7_cook 45 = .ok (.iconst 0, 1) := by decide +kernel
theorem dX7_cook_46 : decode cX7_cook 46 = .ok (.istore_n 3, 1) := by decide +kernel
theorem dX7_cook_47 : decode cX7_cook 47 = .ok (.iload_n 3, 1) := by decide +kernel
theorem dX7_cook_48 : decode cX7_cook 48 = .ok (.iconst 5, 1) := by decide +kernel
theorem dX7_cook_49 : decode cX7_cook 49 = .ok (.if_icmp .ge 32, 3) := by decide +kernel
theorem dX7_cook_52 : decode cX7_cook 52 = .ok (.aload_n 0, 1) := by decide +kernel
theorem dX7_cook_53 : decode cX7_cook 53 = .ok (.getfield 35, 3) := by decide +kernel
theorem dX7_cook_56 : decode cX7_cook 56 = .ok (.iconst 5, 1) := by decide +kernel
theorem dX7_cook_57 : decode cX7_cook 57 = .ok (.iload_n 1, 1) := by decide +kernel
theorem dX7_cook_58 : decode cX7_cook 58 = .ok (.imul, 1) := by decide +kernel
theorem dX7_cook_59 : decode cX7_cook 59 = .ok (.iload_n 3, 1) := by decide +kernel
theorem dX7_cook_60 : decode cX7_cook 60 = .ok (.iadd, 1) := by decide +kernel
theorem dX7_cook_61 : decode cX7_cook 61 = .ok (.dup2, 1) := by decide +kernel
theorem dX7_cook_62 : decode cX7_cook 62 = .ok (.iaload, 1) := by decide +kernel
theorem dX7_cook_63 : decode cX7_cook 63 = .ok (.aload_n 0, 1) := by decide +kernel
theorem dX7_cook_64 : decode cX7_cook 64 = .ok (.getfield 23, 3) := by decide +kernel
theorem dX7_cook_67 : decode cX7_cook 67 = .ok (.iconst 5, 1) := by decide +kernel
theorem dX7_cook_68 : decode cX7_cook 68 = .ok (.iload_n 2, 1) := by decide +kernel
theorem dX7_cook_69 : decode cX7_cook 69 = .ok (.imul, 1) := by decide +kernel
theorem dX7_cook_70 : decode cX7_cook 70 = .ok (.iload_n 3, 1) := by decide +kernel
theorem dX7_cook_71 : decode cX7_cook 71 = .ok (.iadd, 1) := by decide +kernel
theorem dX7_cook_72 : decode cX7_cook 72 = .ok (.iaload, 1) := by decide +kernel
theorem dX7_cook_73 : decode cX7_cook 73 = .ok (.isub, 1) := by decide +kernel
theorem dX7_cook_74 : decode cX7_cook 74 = .ok (.iastore, 1) := by decide +kernel
theorem dX7_cook_75 : decode cX7_cook 75 = .ok (.iinc 3 1, 3) := by decide +kernel
theorem dX7_cook_78 : decode cX7_cook 78 = .ok (.goto (-31), 3) := by decide +kernel
theorem dX7_cook_81 : decode cX7_cook 81 = .ok (.aload_n 0, 1) := by decide +kernel
theorem dX7_cook_82 : decode cX7_cook 82 = .ok (.getfield 35, 3) := by decide +kernel
theorem dX7_cook_85 : decode cX7_cook 85 = .ok (.bipush 33, 2) := by decide +kernel
theorem dX7_cook_87 : decode cX7_cook 87 = .ok (.iconst 2, 1) := by decide +kernel
theorem dX7_cook_88 : decode cX7_cook 88 = .ok (.aload_n 0, 1) := by decide +kernel
theorem dX7_cook_89 : decode cX7_cook 89 = .ok (.getfield 35, 3) := by decide +kernel
theorem dX7_cook_92 : decode cX7_cook 92 = .ok (.bipush 32, 2) := by decide +kernel
theorem dX7_cook_94 : decode cX7_cook 94 = .ok (.iaload, 1) := by decide +kernel
theorem dX7_cook_95 : decode cX7_cook 95 = .ok (.imul, 1) := by decide +kernel
theorem dX7_cook_96 : decode cX7_cook 96 = .ok (.iadd, 1) := by decide +kernel
theorem dX7_cook_97 : decode cX7_cook 97 = .ok (.iload_n 1, 1) := by decide +kernel
theorem dX7_cook_98 : decode cX7_cook 98 = .ok (.iastore, 1) := by decide +kernel
theorem dX7_cook_99 : decode cX7_cook 99 = .ok (.aload_n 0, 1) := by decide +kernel
theorem dX7_cook_100 : decode cX7_cook 100 = .ok (.getfield 35, 3) := by decide +kernel
theorem dX7_cook_103 : decode cX7_cook 103 = .ok (.bipush 33, 2) := by decide +kernel
theorem dX7_cook_105 : decode cX7_cook 105 = .ok (.iconst 2, 1) := by decide +kernel
theorem dX7_cook_106 : decode cX7_cook 106 = .ok (.aload_n 0, 1) := by decide +kernel
theorem dX7_cook_107 : decode cX7_cook 107 = .ok (.getfield 35, 3) := by decide +kernel
theorem dX7_cook_110 : decode cX7_cook 110 = .ok (.bipush 32, 2) := by decide +kernel
theorem dX7_cook_112 : decode cX7_cook 112 = .ok (.iaload, 1) := by decide +kernel
theorem dX7_cook_113 : decode cX7_cook 113 = .ok (.imul, 1) := by decide +kernel
theorem dX7_cook_114 : decode cX7_cook 114 = .ok (.iadd, 1) := by decide +kernel
theorem dX7_cook_115 : decode cX7_cook 115 = .ok (.iconst 1, 1) := by decide +kernel
theorem dX7_cook_116 : decode cX7_cook 116 = .ok (.iadd, 1) := by decide +kernel
theorem dX7_cook_117 : decode cX7_cook 117 = .ok (.iload_n 2, 1) := by decide +kernel
theorem dX7_cook_118 : decode cX7_cook 118 = .ok (.iastore, 1) := by decide +kernel
theorem dX7_cook_119 : decode cX7_cook 119 = .ok (.aload_n 0, 1) := by decide +kernel
theorem dX7_cook_120 : decode cX7_cook 120 = .ok (.getfield 35, 3) := by decide +kernel
theorem dX7_cook_123 : decode cX7_cook 123 = .ok (.bipush 32, 2) := by decide +kernel
theorem dX7_cook_125 : decode cX7_cook 125 = .ok (.dup2, 1) := by decide +kernel
theorem dX7_cook_126 : decode cX7_cook 126 = .ok (.iaload, 1) := by decide +kernel
theorem dX7_cook_127 : decode cX7_cook 127 = .ok (.iconst 1, 1) := by decide +kernel
