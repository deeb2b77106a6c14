theorem dX2_fillOne_149 : decode cX2_fillOne 149 = .ok (.sipush 1000, 3) := by decide +kernel
theorem dX2_fillOne_152 : decode cX2_fillOne 152 = .ok (.iload 7, 2) := by decide +kernel
theorem dX2_fillOne_154 : decode cX2_fillOne 154 = .ok (.imul, 1) := by decide +kernel
theorem dX2_fillOne_155 : decode cX2_fillOne 155 = .ok (.aload 4, 2) := by decide +kernel
theorem dX2_fillOne_157 : decode cX2_fillOne 157 = .ok (.iload 10, 2) := by decide +kernel
theorem dX2_fillOne_159 : decode cX2_fillOne 159 = .ok (.iaload, 1) := by decide +kernel
theorem dX2_fillOne_160 : decode cX2_fillOne 160 = .ok (.iload 11, 2) := by decide +kernel
theorem dX2_fillOne_162 : decode cX2_fillOne 162 = .ok (.imul, 1) := by decide +kernel
theorem dX2_fillOne_163 : decode cX2_fillOne 163 = .ok (.iadd, 1) := by decide +kernel
theorem dX2_fillOne_164 : decode cX2_fillOne 164 = .ok (.invokestatic 120, 3) := by decide +kernel
theorem dX2_fillOne_167 : decode cX2_fillOne 167 = .ok (.istore 9, 2) := by decide +kernel
theorem dX2_fillOne_169 : decode cX2_fillOne 169 = .ok (.aload_n 0, 1) := by decide +kernel
theorem dX2_fillOne_170 : decode cX2_fillOne 170 = .ok (.getfield 39, 3) := by decide +kernel
theorem dX2_fillOne_173 : decode cX2_fillOne 173 = .ok (.iload 6, 2) := by decide +kernel
theorem dX2_fillOne_175 : decode cX2_fillOne 175 = .ok (.bipush 42, 2) := by decide +kernel
theorem dX2_fillOne_177 : decode cX2_fillOne 177 = .ok (.imul, 1) := by decide +kernel
theorem dX2_fillOne_178 : decode cX2_fillOne 178 = .ok (.iload 10, 2) := by decide +kernel
theorem dX2_fillOne_180 : decode cX2_fillOne 180 = .ok (.iadd, 1) := by decide +kernel
theorem dX2_fillOne_181 : decode cX2_fillOne 181 = .ok (.iload 9, 2) := by decide +kernel
theorem dX2_fillOne_183 : decode cX2_fillOne 183 = .ok (.sipush 1000, 3) := by decide +kernel
theorem dX2_fillOne_186 : decode cX2_fillOne 186 = .ok (.idiv, 1) := by decide +kernel
theorem dX2_fillOne_187 : decode cX2_fillOne 187 = .ok (.iastore, 1) := by decide +kernel
theorem dX2_fillOne_188 : decode cX2_fillOne 188 = .ok (.iinc 10 (-1), 3) := by decide +kernel
theorem dX2_fillOne_191 : decode cX2_fillOne 191 = .ok (.goto (-86), 3) := by decide +kernel
theorem dX2_fillOne_194 : decode cX2_fillOne 194 = .ok (.aload_n 0, 1) := by decide +kernel
theorem dX2_fillOne_195 : decode cX2_fillOne 195 = .ok (.getfield 36, 3) := by decide +kernel
theorem dX2_fillOne_198 : decode cX2_fillOne 198 = .ok (.iload 6, 2) := by decide +kernel
theorem dX2_fillOne_200 : decode cX2_fillOne 200 = .ok (.iload 6, 2) := by decide +kernel
theorem dX2_fillOne_202 : decode cX2_fillOne 202 = .ok (.iload_n 1, 1) := by decide +kernel
theorem dX2_fillOne_203 : decode cX2_fillOne 203 = .ok (.if_icmp .ge 12, 3) := by decide +kernel
theorem dX2_fillOne_206 : decode cX2_fillOne 206 = .ok (.iload 8, 2) := by decide +kernel
theorem dX2_fillOne_208 : decode cX2_fillOne 208 = .ok (.sipush 1000, 3) := by decide +kernel
theorem dX2_fillOne_211 : decode cX2_fillOne 211 = .ok (.idiv, 1) := by decide +kernel
theorem dX2_fillOne_212 : decode cX2_fillOne 212 = .ok (.goto 5, 3) := by decide +kernel
theorem dX2_fillOne_215 : decode cX2_fillOne 215 = .ok (.iload 7, 2) := by decide +kernel
theorem dX2_fillOne_217 : decode cX2_fillOne 217 = .ok (.iastore, 1) := by decide +kernel
theorem dX2_fillOne_218 : decode cX2_fillOne 218 = .ok (.iinc 6 1, 3) := by decide +kernel
theorem dX2_fillOne_221 : decode cX2_fillOne 221 = .ok (.goto (-176), 3) := by decide +kernel
theorem dX2_fillOne_224 : decode cX2_fillOne 224 = .ok (.iload_n 1, 1) := by decide +kernel
theorem dX2_fillOne_225 : decode cX2_fillOne 225 = .ok (.aload_n 0, 1) := by decide +kernel
theorem dX2_fillOne_226 : decode cX2_fillOne 226 = .ok (.getfield 15, 3) := by decide +kernel
theorem dX2_fillOne_229 : decode cX2_fillOne 229 = .ok (.invokestatic 117, 3) := by decide +kernel
theorem dX2_fillOne_232 : decode cX2_fillOne 232 = .ok (.istore 6, 2) := by decide +kernel
theorem dX2_fillOne_234 : decode cX2_fillOne 234 = .ok (.iload_n 1, 1) := by decide +kernel
theorem dX2_fillOne_235 : decode cX2_fillOne 235 = .ok (.istore 7, 2) := by decide +kernel
theorem dX2_fillOne_237 : decode cX2_fillOne 237 = .ok (.iload 7, 2) := by decide +kernel
theorem dX2_fillOne_239 : decode cX2_fillOne 239 = .ok (.ifCond .le 70, 3) := by decide +kernel
theorem dX2_fillOne_242 : decode cX2_fillOne 242 = .ok (.aload_n 0, 1) := by decide +kernel
theorem dX2_fillOne_243 : decode cX2_fillOne 243 = .ok (.getfield 33, 3) := by decide +kernel
theorem dX2_fillOne_246 : decode cX2_fillOne 246 = .ok (.iload_n 1, 1) := by decide +kernel
theorem dX2_fillOne_247 : decode cX2_fillOne 247 = .ok (.iadd, 1) := by decide +kernel
theorem dX2_fillOne_248 : decode cX2_fillOne 248 = .ok (.sipush 242, 3) := by decide +kernel
theorem dX2_fillOne_251 : decode cX2_fillOne 251 = .ok (.if_icmp .ge 58, 3) := by decide +kernel
theorem dX2_fillOne_254 : decode cX2_fillOne 254 = .ok (.iload 6, 2) := by decide +kernel
theorem dX2_fillOne_256 : decode cX2_fillOne 256 = .ok (.sipush 1000, 3) := by decide +kernel
theorem dX2_fillOne_259 : decode cX2_fillOne 259 = .ok (.aload_n 0, 1) := by decide +kernel
theorem dX2_fillOne_260 : decode cX2_fillOne 260 = .ok (.getfield 15, 3) := by decide +kernel
theorem dX2_fillOne_263 : decode cX2_fillOne 263 = .ok (.imul, 1) := by decide +kernel
theorem dX2_fillOne_264 : decode cX2_fillOne 264 = .ok (.aload 5, 2) := by decide +kernel
theorem dX2_fillOne_266 : decode cX2_fillOne 266 = .ok (.iload 7, 2) := by decide +kernel
theorem dX2_fillOne_268 : decode cX2_fillOne 268 = .ok (.iaload, 1) := by decide +kernel
theorem dX2_fillOne_269 : decode cX2_fillOne 269 = .ok (.aload_n 2, 1) := by decide +kernel
theorem dX2_fillOne_270 : decode cX2_fillOne 270 = .ok (.aload_n 0, 1) := by decide +kernel
theorem dX2_fillOne_271 : decode cX2_fillOne 271 = .ok (.getfield 33, 3) := by decide +kernel
theorem dX2_fillOne_274 : decode cX2_fillOne 274 = .ok (.iload 7, 2) := by decide +kernel
theorem dX2_fillOne_276 : decode cX2_fillOne 276 = .ok (.iadd, 1) := by decide +kernel
theorem dX2_fillOne_277 : decode cX2_fillOne 277 = .ok (.iaload, 1) := by decide +kernel
theorem dX2_fillOne_278 : decode cX2_fillOne 278 = .ok (.aload_n 0, 1) := by decide +kernel
theorem dX2_fillOne_279 : decode cX2_fillOne 279 = .ok (.getfield 15, 3) := by decide +kernel
theorem dX2_fillOne_282 : decode cX2_fillOne 282 = .ok (.isub, 1) := by decide +kernel
theorem dX2_fillOne_283 : decode cX2_fillOne 283 = .ok (.imul, 1) := by decide +kernel
theorem dX2_fillOne_284 : decode cX2_fillOne 284 = .ok (.iadd, 1) := by decide +kernel
theorem dX2_fillOne_285 : decode cX2_fillOne 285 = .ok (.invokestatic 120, 3) := by decide +kernel
theorem dX2_fillOne_288 : decode cX2_fillOne 288 = .ok (.istore 6, 2) := by decide +kernel
theorem dX2_fillOne_290 : decode cX2_fillOne 290 = .ok (.aload_n 0, 1) := by decide +kernel
theorem dX2_fillOne_291 : decode cX2_fillOne 291 = .ok (.getfield 42, 3) := by decide +kernel
theorem dX2_fillOne_294 : decode cX2_fillOne 294 = .ok (.iload 7, 2) := by decide +kernel
theorem dX2_fillOne_296 : decode cX2_fillOne 296 = .ok (.iload 6, 2) := by decide +kernel
theorem dX2_fillOne_298 : decode cX2_fillOne 298 = .ok (.sipush 1000, 3) := by decide +kernel
theorem dX2_fillOne_301 : decode cX2_fillOne 301 = .ok (.idiv, 1) := by decide +kernel
theorem dX2_fillOne_302 : decode cX2_fillOne 302 = .ok (.iastore, 1) := by decide +kernel
theorem dX2_fillOne_303 : decode cX2_fillOne 303 = .ok (.iinc 7 (-1), 3) := by decide +kernel
theorem dX2_fillOne_306 : decode cX2_fillOne 306 = .ok (.goto (-69), 3) := by decide +kernel
theorem dX2_fillOne_309 : decode cX2_fillOne 309 = .ok (.return_, 1) := by decide +kernel
theorem dX2_fillTwo_0 : decode cX2_fillTwo 0 = .ok (.aload_n 0, 1) := by decide +kernel
theorem dX2_fillTwo_1 : decode cX2_fillTwo 1 = .ok (.getfield 20, 3) := by decide +kernel
theorem dX2_fillTwo_4 : decode cX2_fillTwo 4 = .ok (.aload_n 0, 1) := by decide +kernel
theorem dX2_fillTwo_5 : decode cX2_fillTwo 5 = .ok (.getfield 30, 3) := by decide +kernel
theorem dX2_fillTwo_8 : decode cX2_fillTwo 8 = .ok (.iconst 3, 1) := by decide +kernel
theorem dX2_fillTwo_9 : decode cX2_fillTwo 9 = .ok (.imul, 1) := by decide +kernel
theorem dX2_fillTwo_10 : decode cX2_fillTwo 10 = .ok (.aaload, 1) := by decide +kernel
theorem dX2_fillTwo_11 : decode cX2_fillTwo 11 = .ok (.astore_n 3, 1) := by decide +kernel
theorem dX2_fillTwo_12 : decode cX2_fillTwo 12 = .ok (.aload_n 0, 1) := by decide +kernel
theorem dX2_fillTwo_13 : decode cX2_fillTwo 13 = .ok (.getfield 20, 3) := by decide +kernel
theorem dX2_fillTwo_16 : decode cX2_fillTwo 16 = .ok (.aload_n 0, 1) := by decide +kernel
theorem dX2_fillTwo_17 : decode cX2_fillTwo 17 = .ok (.getfield 30, 3) := by decide +kernel
theorem dX2_fillTwo_20 : decode cX2_fillTwo 20 = .ok (.iconst 3, 1) := by decide +kernel
theorem dX2_fillTwo_21 : decode cX2_fillTwo 21 = .ok (.imul, 1) := by decide +kernel
theorem dX2_fillTwo_22 : decode cX2_fillTwo 22 = .ok (.iconst 1, 1) := by decide +kernel
theorem dX2_fillTwo_23 : decode cX2_fillTwo 23 = .ok (.iadd, 1) := by decide +kernel
theorem dX2_fillTwo_24 : decode cX2_fillTwo 24 = .ok (.aaload, 1) := by decide +kernel
theorem dX2_fillTwo_25 : decode cX2_fillTwo 25 = .ok (.astore 4, 2) := by decide +kernel
theorem dX2_fillTwo_27 : decode cX2_fillTwo 27 = .ok (.iconst 1, 1) := by decide +kernel
theorem dX2_fillTwo_28 : decode cX2_fillTwo 28 = .ok (.istore 5, 2) := by decide +kernel
theorem dX2_fillTwo_30 : decode cX2_fillTwo 30 = .ok (.iload 5, 2) := by decide +kernel
theorem dX2_fillTwo_32 : decode cX2_fillTwo 32 = .ok (.iload_n 1, 1) := by decide +kernel
theorem dX2_fillTwo_33 : decode cX2_fillTwo 33 = .ok (.if_icmp .gt 127, 3) := by decide +kernel
theorem dX2_fillTwo_36 : decode cX2_fillTwo 36 = .ok (.aload_n 0, 1) := by decide +kernel
theorem dX2_fillTwo_37 : decode cX2_fillTwo 37 = .ok (.getfield 33, 3) := by decide +kernel
theorem dX2_fillTwo_40 : decode cX2_fillTwo 40 = .ok (.iload_n 1, 1) := by decide +kernel
theorem dX2_fillTwo_41 : decode cX2_fillTwo 41 = .ok (.iadd, 1) := by decide +kernel
theorem dX2_fillTwo_42 : decode cX2_fillTwo 42 = .ok (.sipush 242, 3) := by decide +kernel
theorem dX2_fillTwo_45 : decode cX2_fillTwo 45 = .ok (.if_icmp .ge 115, 3) := by decide +kernel
theorem dX2_fillTwo_48 : decode cX2_fillTwo 48 = .ok (.iload_n 1, 1) := by decide +kernel
theorem dX2_fillTwo_49 : decode cX2_fillTwo 49 = .ok (.aload_n 2, 1) := by decide +kernel
theorem dX2_fillTwo_50 : decode cX2_fillTwo 50 = .ok (.aload_n 0, 1) := by decide +kernel
theorem dX2_fillTwo_51 : decode cX2_fillTwo 51 = .ok (.getfield 33, 3) := by decide +kernel
theorem dX2_fillTwo_54 : decode cX2_fillTwo 54 = .ok (.iload 5, 2) := by decide +kernel
theorem dX2_fillTwo_56 : decode cX2_fillTwo 56 = .ok (.iadd, 1) := by decide +kernel
theorem dX2_fillTwo_57 : decode cX2_fillTwo 57 = .ok (.iaload, 1) := by decide +kernel
theorem dX2_fillTwo_58 : decode cX2_fillTwo 58 = .ok (.invokestatic 117, 3) := by decide +kernel
theorem dX2_fillTwo_61 : decode cX2_fillTwo 61 = .ok (.istore 6, 2) := by decide +kernel
theorem dX2_fillTwo_63 : decode cX2_fillTwo 63 = .ok (.iload_n 1, 1) := by decide +kernel
theorem dX2_fillTwo_64 : decode cX2_fillTwo 64 = .ok (.istore 7, 2) := by decide +kernel
theorem dX2_fillTwo_66 : decode cX2_fillTwo 66 = .ok (.iload 7, 2) := by decide +kernel
theorem dX2_fillTwo_68 : decode cX2_fillTwo 68 = .ok (.iload 5, 2) := by decide +kernel
theorem dX2_fillTwo_70 : decode cX2_fillTwo 70 = .ok (.if_icmp .le 53, 3) := by decide +kernel
theorem dX2_fillTwo_73 : decode cX2_fillTwo 73 = .ok (.aload_n 0, 1) := by decide +kernel
theorem dX2_fillTwo_74 : decode cX2_fillTwo 74 = .ok (.getfield 39, 3) := by decide +kernel
theorem dX2_fillTwo_77 : decode cX2_fillTwo 77 = .ok (.iload 5, 2) := by decide +kernel
theorem dX2_fillTwo_79 : decode cX2_fillTwo 79 = .ok (.bipush 42, 2) := by decide +kernel
theorem dX2_fillTwo_81 : decode cX2_fillTwo 81 = .ok (.imul, 1) := by decide +kernel
theorem dX2_fillTwo_82 : decode cX2_fillTwo 82 = .ok (.iload 7, 2) := by decide +kernel
theorem dX2_fillTwo_84 : decode cX2_fillTwo 84 = .ok (.iadd, 1) := by decide +kernel
theorem dX2_fillTwo_85 : decode cX2_fillTwo 85 = .ok (.iaload, 1) := by decide +kernel
theorem dX2_fillTwo_86 : decode cX2_fillTwo 86 = .ok (.istore 8, 2) := by decide +kernel
theorem dX2_fillTwo_88 : decode cX2_fillTwo 88 = .ok (.iload 6, 2) := by decide +kernel
theorem dX2_fillTwo_90 : decode cX2_fillTwo 90 = .ok (.sipush 1000, 3) := by decide +kernel
theorem dX2_fillTwo_93 : decode cX2_fillTwo 93 = .ok (.iload 8, 2) := by decide +kernel
theorem dX2_fillTwo_95 : decode cX2_fillTwo 95 = .ok (.imul, 1) := by decide +kernel
theorem dX2_fillTwo_96 : decode cX2_fillTwo 96 = .ok (.aload_n 3, 1) := by decide +kernel
theorem dX2_fillTwo_97 : decode cX2_fillTwo 97 = .ok (.iload 7, 2) := by decide +kernel
theorem dX2_fillTwo_99 : decode cX2_fillTwo 99 = .ok (.iaload, 1) := by decide +kernel
theorem dX2_fillTwo_100 : decode cX2_fillTwo 100 = .ok (.aload_n 0, 1) := by decide +kernel
theorem dX2_fillTwo_101 : decode cX2_fillTwo 101 = .ok (.getfield 36, 3) := by decide +kernel
theorem dX2_fillTwo_104 : decode cX2_fillTwo 104 = .ok (.iload 7, 2) := by decide +kernel
theorem dX2_fillTwo_106 : decode cX2_fillTwo 106 = .ok (.iaload, 1) := by decide +kernel
theorem dX2_fillTwo_107 : decode cX2_fillTwo 107 = .ok (.iload 8, 2) := by decide +kernel
theorem dX2_fillTwo_109 : decode cX2_fillTwo 109 = .ok (.isub, 1) := by decide +kernel
theorem dX2_fillTwo_110 : decode cX2_fillTwo 110 = .ok (.imul, 1) := by decide +kernel
theorem dX2_fillTwo_111 : decode cX2_fillTwo 111 = .ok (.iadd, 1) := by decide +kernel
theorem dX2_fillTwo_112 : decode cX2_fillTwo 112 = .ok (.invokestatic 120, 3) := by decide +kernel
theorem dX2_fillTwo_115 : decode cX2_fillTwo 115 = .ok (.istore 6, 2) := by decide +kernel
theorem dX2_fillTwo_117 : decode cX2_fillTwo 117 = .ok (.iinc 7 (-1), 3) := by decide +kernel
theorem dX2_fillTwo_120 : decode cX2_fillTwo 120 = .ok (.goto (-54), 3) := by decide +kernel
theorem dX2_fillTwo_123 : decode cX2_fillTwo 123 = .ok (.aload_n 0, 1) := by decide +kernel
theorem dX2_fillTwo_124 : decode cX2_fillTwo 124 = .ok (.getfield 45, 3) := by decide +kernel
theorem dX2_fillTwo_127 : decode cX2_fillTwo 127 = .ok (.iload 5, 2) := by decide +kernel
theorem dX2_fillTwo_129 : decode cX2_fillTwo 129 = .ok (.iload 5, 2) := by decide +kernel
theorem dX2_fillTwo_131 : decode cX2_fillTwo 131 = .ok (.iload_n 1, 1) := by decide +kernel
theorem dX2_fillTwo_132 : decode cX2_fillTwo 132 = .ok (.if_icmp .ge 12, 3) := by decide +kernel
theorem dX2_fillTwo_135 : decode cX2_fillTwo 135 = .ok (.iload 6, 2) := by decide +kernel
theorem dX2_fillTwo_137 : decode cX2_fillTwo 137 = .ok (.sipush 1000, 3) := by decide +kernel
theorem dX2_fillTwo_140 : decode cX2_fillTwo 140 = .ok (.idiv, 1) := by decide +kernel
theorem dX2_fillTwo_141 : decode cX2_fillTwo 141 = .ok (.goto 12, 3) := by decide +kernel
theorem dX2_fillTwo_144 : decode cX2_fillTwo 144 = .ok (.aload_n 2, 1) := by decide +kernel
theorem dX2_fillTwo_145 : decode cX2_fillTwo 145 = .ok (.aload_n 0, 1) := by decide +kernel
theorem dX2_fillTwo_146 : decode cX2_fillTwo 146 = .ok (.getfield 33, 3) := by decide +kernel
theorem dX2_fillTwo_149 : decode cX2_fillTwo 149 = .ok (.iload 5, 2) := by decide +kernel
theorem dX2_fillTwo_151 : decode cX2_fillTwo 151 = .ok (.iadd, 1) := by decide +kernel
theorem dX2_fillTwo_152 : decode cX2_fillTwo 152 = .ok (.iaload, 1) := by decide +kernel
theorem dX2_fillTwo_153 : decode cX2_fillTwo 153 = .ok (.iastore, 1) := by decide +kernel
theorem dX2_fillTwo_154 : decode cX2_fillTwo 154 = .ok (.iinc 5 1, 3) := by decide +kernel
theorem dX2_fillTwo_157 : decode cX2_fillTwo 157 = .ok (.goto (-127), 3) := by decide +kernel
theorem dX2_fillTwo_160 : decode cX2_fillTwo 160 = .ok (.iload_n 1, 1) := by decide +kernel
theorem dX2_fillTwo_161 : decode cX2_fillTwo 161 = .ok (.aload_n 0, 1) := by decide +kernel
theorem dX2_fillTwo_162 : decode cX2_fillTwo 162 = .ok (.getfield 15, 3) := by decide +kernel
theorem dX2_fillTwo_165 : decode cX2_fillTwo 165 = .ok (.invokestatic 117, 3) := by decide +kernel
theorem dX2_fillTwo_168 : decode cX2_fillTwo 168 = .ok (.istore 5, 2) := by decide +kernel
theorem dX2_fillTwo_170 : decode cX2_fillTwo 170 = .ok (.iload_n 1, 1) := by decide +kernel
theorem dX2_fillTwo_171 : decode cX2_fillTwo 171 = .ok (.istore 6, 2) := by decide +kernel
theorem dX2_fillTwo_173 : decode cX2_fillTwo 173 = .ok (.iload 6, 2) := by decide +kernel
theorem dX2_fillTwo_175 : decode cX2_fillTwo 175 = .ok (.ifCond .le 69, 3) := by decide +kernel
theorem dX2_fillTwo_178 : decode cX2_fillTwo 178 = .ok (.aload_n 0, 1) := by decide +kernel
theorem dX2_fillTwo_179 : decode cX2_fillTwo 179 = .ok (.getfield 42, 3) := by decide +kernel
theorem dX2_fillTwo_182 : decode cX2_fillTwo 182 = .ok (.iload 6, 2) := by decide +kernel
theorem dX2_fillTwo_184 : decode cX2_fillTwo 184 = .ok (.iaload, 1) := by decide +kernel
theorem dX2_fillTwo_185 : decode cX2_fillTwo 185 = .ok (.istore 7, 2) := by decide +kernel
theorem dX2_fillTwo_187 : decode cX2_fillTwo 187 = .ok (.iload 5, 2) := by decide +kernel
theorem dX2_fillTwo_189 : decode cX2_fillTwo 189 = .ok (.sipush 1000, 3) := by decide +kernel
theorem dX2_fillTwo_192 : decode cX2_fillTwo 192 = .ok (.iload 7, 2) := by decide +kernel
theorem dX2_fillTwo_194 : decode cX2_fillTwo 194 = .ok (.imul, 1) := by decide +kernel
theorem dX2_fillTwo_195 : decode cX2_fillTwo 195 = .ok (.aload 4, 2) := by decide +kernel
theorem dX2_fillTwo_197 : decode cX2_fillTwo 197 = .ok (.iload 6, 2) := by decide +kernel
theorem dX2_fillTwo_199 : decode cX2_fillTwo 199 = .ok (.iaload, 1) := by decide +kernel
theorem dX2_fillTwo_200 : decode cX2_fillTwo 200 = .ok (.aload_n 0, 1) := by decide +kernel
theorem dX2_fillTwo_201 : decode cX2_fillTwo 201 = .ok (.getfield 39, 3) := by decide +kernel
theorem dX2_fillTwo_204 : decode cX2_fillTwo 204 = .ok (.iload 6, 2) := by decide +kernel
theorem dX2_fillTwo_206 : decode cX2_fillTwo 206 = .ok (.bipush 42, 2) := by decide +kernel
theorem dX2_fillTwo_208 : decode cX2_fillTwo 208 = .ok (.imul, 1) := by decide +kernel
theorem dX2_fillTwo_209 : decode cX2_fillTwo 209 = .ok (.iload 6, 2) := by decide +kernel
theorem dX2_fillTwo_211 : decode cX2_fillTwo 211 = .ok (.iadd, 1) := by decide +kernel
theorem dX2_fillTwo_212 : decode cX2_fillTwo 212 = .ok (.iconst 1, 1) := by decide +kernel
theorem dX2_fillTwo_213 : decode cX2_fillTwo 213 = .ok (.iadd, 1) := by decide +kernel
theorem dX2_fillTwo_214 : decode cX2_fillTwo 214 = .ok (.iaload, 1) := by decide +kernel
theorem dX2_fillTwo_215 : decode cX2_fillTwo 215 = .ok (.iload 7, 2) := by decide +kernel
theorem dX2_fillTwo_217 : decode cX2_fillTwo 217 = .ok (.isub, 1) := by decide +kernel
theorem dX2_fillTwo_218 : decode cX2_fillTwo 218 = .ok (.imul, 1) := by decide +kernel
theorem dX2_fillTwo_219 : decode cX2_fillTwo 219 = .ok (.iadd, 1) := by decide +kernel
theorem dX2_fillTwo_220 : decode cX2_fillTwo 220 = .ok (.invokestatic 120, 3) := by decide +kernel
theorem dX2_fillTwo_223 : decode cX2_fillTwo 223 = .ok (.istore 5, 2) := by decide +kernel
theorem dX2_fillTwo_225 : decode cX2_fillTwo 225 = .ok (.aload_n 0, 1) := by decide +kernel
theorem dX2_fillTwo_226 : decode cX2_fillTwo 226 = .ok (.getfield 48, 3) := by decide +kernel
theorem dX2_fillTwo_229 : decode cX2_fillTwo 229 = .ok (.iload 6, 2) := by decide +kernel
theorem dX2_fillTwo_231 : decode cX2_fillTwo 231 = .ok (.iload 5, 2) := by decide +kernel
theorem dX2_fillTwo_233 : decode cX2_fillTwo 233 = .ok (.sipush 1000, 3) := by decide +kernel
theorem dX2_fillTwo_236 : decode cX2_fillTwo 236 = .ok (.idiv, 1) := by decide +kernel
theorem dX2_fillTwo_237 : decode cX2_fillTwo 237 = .ok (.iastore, 1) := by decide +kernel
theorem dX2_fillTwo_238 : decode cX2_fillTwo 238 = .ok (.iinc 6 (-1), 3) := by decide +kernel
theorem dX2_fillTwo_241 : decode cX2_fillTwo 241 = .ok (.goto (-68), 3) := by decide +kernel
theorem dX2_fillTwo_244 : decode cX2_fillTwo 244 = .ok (.return_, 1) := by decide +kernel
theorem dX2_atFirst_0 : decode cX2_atFirst 0 = .ok (.iload_n 0, 1) := by decide +kernel
theorem dX2_atFirst_1 : decode cX2_atFirst 1 = .ok (.bipush 40, 2) := by decide +kernel
theorem dX2_atFirst_3 : decode cX2_atFirst 3 = .ok (.if_icmp .ge 11, 3) := by decide +kernel
theorem dX2_atFirst_6 : decode cX2_atFirst 6 = .ok (.sipush 1000, 3) := by decide +kernel
theorem dX2_atFirst_9 : decode cX2_atFirst 9 = .ok (.iload_n 1, 1) := by decide +kernel
theorem dX2_atFirst_10 : decode cX2_atFirst 10 = .ok (.imul, 1) := by decide +kernel
theorem dX2_atFirst_11 : decode cX2_atFirst 11 = .ok (.goto 4, 3) := by decide +kernel
theorem dX2_atFirst_14 : decode cX2_atFirst 14 = .ok (.iconst (-1), 1) := by decide +kernel
theorem dX2_atFirst_15 : decode cX2_atFirst 15 = .ok (.ireturn, 1) := by decide +kernel
theorem dX2_choose_0 : decode cX2_choose 0 = .ok (.aload_n 0, 1) := by decide +kernel
theorem dX2_choose_1 : decode cX2_choose 1 = .ok (.getfield 23, 3) := by decide +kernel
theorem dX2_choose_4 : decode cX2_choose 4 = .ok (.aload_n 0, 1) := by decide +kernel
theorem dX2_choose_5 : decode cX2_choose 5 = .ok (.getfield 30, 3) := by decide +kernel
theorem dX2_choose_8 : decode cX2_choose 8 = .ok (.iaload, 1) := by decide +kernel
theorem dX2_choose_9 : decode cX2_choose 9 = .ok (.istore 5, 2) := by decide +kernel
theorem dX2_choose_11 : decode cX2_choose 11 = .ok (.iload_n 3, 1) := by decide +kernel
theorem dX2_choose_12 : decode cX2_choose 12 = .ok (.ifCond .ne 10, 3) := by decide +kernel
theorem dX2_choose_15 : decode cX2_choose 15 = .ok (.aload_n 0, 1) := by decide +kernel
theorem dX2_choose_16 : decode cX2_choose 16 = .ok (.getfield 15, 3) := by decide +kernel
theorem dX2_choose_19 : decode cX2_choose 19 = .ok (.goto 8, 3) := by decide +kernel
theorem dX2_choose_22 : decode cX2_choose 22 = .ok (.aload_n 0, 1) := by decide +kernel
theorem dX2_choose_23 : decode cX2_choose 23 = .ok (.iload_n 3, 1) := by decide +kernel
theorem dX2_choose_24 : decode cX2_choose 24 = .ok (.invokevirtual 125, 3) := by decide +kernel
theorem dX2_choose_27 : decode cX2_choose 27 = .ok (.istore 6, 2) := by decide +kernel
theorem dX2_choose_29 : decode cX2_choose 29 = .ok (.aload_n 0, 1) := by decide +kernel
theorem dX2_choose_30 : decode cX2_choose 30 = .ok (.iload 4, 2) := by decide +kernel
theorem dX2_choose_32 : decode cX2_choose 32 = .ok (.iload 5, 2) := by decide +kernel
theorem dX2_choose_34 : decode cX2_choose 34 = .ok (.iconst 1, 1) := by decide +kernel
theorem dX2_choose_35 : decode cX2_choose 35 = .ok (.iadd, 1) := by decide +kernel
theorem dX2_choose_36 : decode cX2_choose 36 = .ok (.invokestatic 120, 3) := by decide +kernel
theorem dX2_choose_39 : decode cX2_choose 39 = .ok (.putfield 9, 3) := by decide +kernel
theorem dX2_choose_42 : decode cX2_choose 42 = .ok (.iload 4, 2) := by decide +kernel
theorem dX2_choose_44 : decode cX2_choose 44 = .ok (.iload 5, 2) := by decide +kernel
theorem dX2_choose_46 : decode cX2_choose 46 = .ok (.if_icmp .gt 10, 3) := by decide +kernel
theorem dX2_choose_49 : decode cX2_choose 49 = .ok (.iload 5, 2) := by decide +kernel
theorem dX2_choose_51 : decode cX2_choose 51 = .ok (.bipush 40, 2) := by decide +kernel
theorem dX2_choose_53 : decode cX2_choose 53 = .ok (.if_icmp .ge 8, 3) := by decide +kernel
theorem dX2_choose_56 : decode cX2_choose 56 = .ok (.iload 6, 2) := by decide +kernel
theorem dX2_choose_58 : decode cX2_choose 58 = .ok (.goto 4, 3) := by decide +kernel
theorem dX2_choose_61 : decode cX2_choose 61 = .ok (.iconst (-1), 1) := by decide +kernel
theorem dX2_choose_62 : decode cX2_choose 62 = .ok (.istore 7, 2) := by decide +kernel
theorem dX2_choose_64 : decode cX2_choose 64 = .ok (.iload 5, 2) := by decide +kernel
theorem dX2_choose_66 : decode cX2_choose 66 = .ok (.istore 8, 2) := by decide +kernel
theorem dX2_choose_68 : decode cX2_choose 68 = .ok (.iload 8, 2) := by decide +kernel
theorem dX2_choose_70 : decode cX2_choose 70 = .ok (.iload 4, 2) := by decide +kernel
theorem dX2_choose_72 : decode cX2_choose 72 = .ok (.if_icmp .lt 43, 3) := by decide +kernel
theorem dX2_choose_75 : decode cX2_choose 75 = .ok (.iload 8, 2) := by decide +kernel
theorem dX2_choose_77 : decode cX2_choose 77 = .ok (.iconst 1, 1) := by decide +kernel
theorem dX2_choose_78 : decode cX2_choose 78 = .ok (.if_icmp .lt 37, 3) := by decide +kernel
theorem dX2_choose_81 : decode cX2_choose 81 = .ok (.aload_n 0, 1) := by decide +kernel
theorem dX2_choose_82 : decode cX2_choose 82 = .ok (.iload_n 1, 1) := by decide +kernel
theorem dX2_choose_83 : decode cX2_choose 83 = .ok (.iload_n 2, 1) := by decide +kernel
theorem dX2_choose_84 : decode cX2_choose 84 = .ok (.iload_n 3, 1) := by decide +kernel
theorem dX2_choose_85 : decode cX2_choose 85 = .ok (.iload 8, 2) := by decide +kernel
theorem dX2_choose_87 : decode cX2_choose 87 = .ok (.invokevirtual 129, 3) := by decide +kernel
theorem dX2_choose_90 : decode cX2_choose 90 = .ok (.istore 9, 2) := by decide +kernel
theorem dX2_choose_92 : decode cX2_choose 92 = .ok (.iload 9, 2) := by decide +kernel
theorem dX2_choose_94 : decode cX2_choose 94 = .ok (.iload 7, 2) := by decide +kernel
theorem dX2_choose_96 : decode cX2_choose 96 = .ok (.if_icmp .lt 13, 3) := by decide +kernel
theorem dX2_choose_99 : decode cX2_choose 99 = .ok (.iload 9, 2) := by decide +kernel
theorem dX2_choose_101 : decode cX2_choose 101 = .ok (.istore 7, 2) := by decide +kernel
theorem dX2_choose_103 : decode cX2_choose 103 = .ok (.aload_n 0, 1) := by decide +kernel
theorem dX2_choose_104 : decode cX2_choose 104 = .ok (.iload 8, 2) := by decide +kernel
theorem dX2_choose_106 : decode cX2_choose 106 = .ok (.putfield 9, 3) := by decide +kernel
theorem dX2_choose_109 : decode cX2_choose 109 = .ok (.iinc 8 (-1), 3) := by decide +kernel
theorem dX2_choose_112 : decode cX2_choose 112 = .ok (.goto (-44), 3) := by decide +kernel
theorem dX2_choose_115 : decode cX2_choose 115 = .ok (.iload 7, 2) := by decide +kernel
theorem dX2_choose_117 : decode cX2_choose 117 = .ok (.ireturn, 1) := by decide +kernel
theorem dX2_endOf_0 : decode cX2_endOf 0 = .ok (.aload_n 0, 1) := by decide +kernel
theorem dX2_endOf_1 : decode cX2_endOf 1 = .ok (.getfield 33, 3) := by decide +kernel
theorem dX2_endOf_4 : decode cX2_endOf 4 = .ok (.iload_n 1, 1) := by decide +kernel
theorem dX2_endOf_5 : decode cX2_endOf 5 = .ok (.iadd, 1) := by decide +kernel
theorem dX2_endOf_6 : decode cX2_endOf 6 = .ok (.istore_n 2, 1) := by decide +kernel
theorem dX2_endOf_7 : decode cX2_endOf 7 = .ok (.iload_n 2, 1) := by decide +kernel
theorem dX2_endOf_8 : decode cX2_endOf 8 = .ok (.ifCond .lt 10, 3) := by decide +kernel
theorem dX2_endOf_11 : decode cX2_endOf 11 = .ok (.iload_n 2, 1) := by decide +kernel
theorem dX2_endOf_12 : decode cX2_endOf 12 = .ok (.sipush 242, 3) := by decide +kernel
theorem dX2_endOf_15 : decode cX2_endOf 15 = .ok (.if_icmp .lt 7, 3) := by decide +kernel
theorem dX2_endOf_18 : decode cX2_endOf 18 = .ok (.iconst 0, 1) := by decide +kernel
theorem dX2_endOf_19 : decode cX2_endOf 19 = .ok (.goto 16, 3) := by decide +kernel
theorem dX2_endOf_22 : decode cX2_endOf 22 = .ok (.aload_n 0, 1) := by decide +kernel
theorem dX2_endOf_23 : decode cX2_endOf 23 = .ok (.getfield 27, 3) := by decide +kernel
theorem dX2_endOf_26 : decode cX2_endOf 26 = .ok (.aload_n 0, 1) := by decide +kernel
theorem dX2_endOf_27 : decode cX2_endOf 27 = .ok (.getfield 30, 3) := by decide +kernel
theorem dX2_endOf_30 : decode cX2_endOf 30 = .ok (.iconst 1, 1) := by decide +kernel
theorem dX2_endOf_31 : decode cX2_endOf 31 = .ok (.iadd, 1) := by decide +kernel
theorem dX2_endOf_32 : decode cX2_endOf 32 = .ok (.aaload, 1) := by decide +kernel
theorem dX2_endOf_33 : decode cX2_endOf 33 = .ok (.iload_n 2, 1) := by decide +kernel
theorem dX2_endOf_34 : decode cX2_endOf 34 = .ok (.iaload, 1) := by decide +kernel
theorem dX2_endOf_35 : decode cX2_endOf 35 = .ok (.ireturn, 1) := by decide +kernel
theorem dX2_valueAt_0 : decode cX2_valueAt 0 = .ok (.iload_n 2, 1) := by decide +kernel
theorem dX2_valueAt_1 : decode cX2_valueAt 1 = .ok (.ifCond .lt 18, 3) := by decide +kernel
theorem dX2_valueAt_4 : decode cX2_valueAt 4 = .ok (.iload_n 2, 1) := by decide +kernel
theorem dX2_valueAt_5 : decode cX2_valueAt 5 = .ok (.iconst 3, 1) := by decide +kernel
theorem dX2_valueAt_6 : decode cX2_valueAt 6 = .ok (.if_icmp .ge 13, 3) := by decide +kernel
theorem dX2_valueAt_9 : decode cX2_valueAt 9 = .ok (.iload_n 3, 1) := by decide +kernel
theorem dX2_valueAt_10 : decode cX2_valueAt 10 = .ok (.ifCond .lt 9, 3) := by decide +kernel
theorem dX2_valueAt_13 : decode cX2_valueAt 13 = .ok (.iload_n 3, 1) := by decide +kernel
theorem dX2_valueAt_14 : decode cX2_valueAt 14 = .ok (.bipush 40, 2) := by decide +kernel
theorem dX2_valueAt_16 : decode cX2_valueAt 16 = .ok (.if_icmp .le 5, 3) := by decide +kernel
theorem dX2_valueAt_19 : decode cX2_valueAt 19 = .ok (.iconst 0, 1) := by decide +kernel
theorem dX2_valueAt_20 : decode cX2_valueAt 20 = .ok (.ireturn, 1) := by decide +kernel
theorem dX2_valueAt_21 : decode cX2_valueAt 21 = .ok (.aload_n 0, 1) := by decide +kernel
theorem dX2_valueAt_22 : decode cX2_valueAt 22 = .ok (.getfield 20, 3) := by decide +kernel
theorem dX2_valueAt_25 : decode cX2_valueAt 25 = .ok (.aload_n 0, 1) := by decide +kernel
theorem dX2_valueAt_26 : decode cX2_valueAt 26 = .ok (.getfield 30, 3) := by decide +kernel
theorem dX2_valueAt_29 : decode cX2_valueAt 29 = .ok (.iconst 3, 1) := by decide +kernel
theorem dX2_valueAt_30 : decode cX2_valueAt 30 = .ok (.imul, 1) := by decide +kernel
theorem dX2_valueAt_31 : decode cX2_valueAt 31 = .ok (.iload_n 2, 1) := by decide +kernel
theorem dX2_valueAt_32 : decode cX2_valueAt 32 = .ok (.iadd, 1) := by decide +kernel
theorem dX2_valueAt_33 : decode cX2_valueAt 33 = .ok (.aaload, 1) := by decide +kernel
theorem dX2_valueAt_34 : decode cX2_valueAt 34 = .ok (.iload 4, 2) := by decide +kernel
theorem dX2_valueAt_36 : decode cX2_valueAt 36 = .ok (.iaload, 1) := by decide +kernel
theorem dX2_valueAt_37 : decode cX2_valueAt 37 = .ok (.istore 5, 2) := by decide +kernel
theorem dX2_valueAt_39 : decode cX2_valueAt 39 = .ok (.iload_n 1, 1) := by decide +kernel
theorem dX2_valueAt_40 : decode cX2_valueAt 40 = .ok (.iconst 1, 1) := by decide +kernel
theorem dX2_valueAt_41 : decode cX2_valueAt 41 = .ok (.if_icmp .gt 31, 3) := by decide +kernel
theorem dX2_valueAt_44 : decode cX2_valueAt 44 = .ok (.iload 5, 2) := by decide +kernel
theorem dX2_valueAt_46 : decode cX2_valueAt 46 = .ok (.aload_n 0, 1) := by decide +kernel
theorem dX2_valueAt_47 : decode cX2_valueAt 47 = .ok (.iload 4, 2) := by decide +kernel
theorem dX2_valueAt_49 : decode cX2_valueAt 49 = .ok (.invokevirtual 125, 3) := by decide +kernel
theorem dX2_valueAt_52 : decode cX2_valueAt 52 = .ok (.iload_n 3, 1) := by decide +kernel
theorem dX2_valueAt_53 : decode cX2_valueAt 53 = .ok (.ifCond .ne 10, 3) := by decide +kernel
theorem dX2_valueAt_56 : decode cX2_valueAt 56 = .ok (.aload_n 0, 1) := by decide +kernel
theorem dX2_valueAt_57 : decode cX2_valueAt 57 = .ok (.getfield 15, 3) := by decide +kernel
theorem dX2_valueAt_60 : decode cX2_valueAt 60 = .ok (.goto 8, 3) := by decide +kernel
theorem dX2_valueAt_63 : decode cX2_valueAt 63 = .ok (.aload_n 0, 1) := by decide +kernel
theorem dX2_valueAt_64 : decode cX2_valueAt 64 = .ok (.iload_n 3, 1) := by decide +kernel
theorem dX2_valueAt_65 : decode cX2_valueAt 65 = .ok (.invokevirtual 125, 3) := by decide +kernel
theorem dX2_valueAt_68 : decode cX2_valueAt 68 = .ok (.invokestatic 132, 3) := by decide +kernel
theorem dX2_valueAt_71 : decode cX2_valueAt 71 = .ok (.ireturn, 1) := by decide +kernel
theorem dX2_valueAt_72 : decode cX2_valueAt 72 = .ok (.iload_n 1, 1) := by decide +kernel
theorem dX2_valueAt_73 : decode cX2_valueAt 73 = .ok (.iconst 3, 1) := by decide +kernel
theorem dX2_valueAt_74 : decode cX2_valueAt 74 = .ok (.if_icmp .lt 23, 3) := by decide +kernel
theorem dX2_valueAt_77 : decode cX2_valueAt 77 = .ok (.iload 5, 2) := by decide +kernel
theorem dX2_valueAt_79 : decode cX2_valueAt 79 = .ok (.aload_n 0, 1) := by decide +kernel
theorem dX2_valueAt_80 : decode cX2_valueAt 80 = .ok (.getfield 45, 3) := by decide +kernel
theorem dX2_valueAt_83 : decode cX2_valueAt 83 = .ok (.iload 4, 2) := by decide +kernel
theorem dX2_valueAt_85 : decode cX2_valueAt 85 = .ok (.iaload, 1) := by decide +kernel
theorem dX2_valueAt_86 : decode cX2_valueAt 86 = .ok (.aload_n 0, 1) := by decide +kernel
theorem dX2_valueAt_87 : decode cX2_valueAt 87 = .ok (.getfield 48, 3) := by decide +kernel
theorem dX2_valueAt_90 : decode cX2_valueAt 90 = .ok (.iload 4, 2) := by decide +kernel
theorem dX2_valueAt_92 : decode cX2_valueAt 92 = .ok (.iaload, 1) := by decide +kernel
theorem dX2_valueAt_93 : decode cX2_valueAt 93 = .ok (.invokestatic 132, 3) := by decide +kernel
theorem dX2_valueAt_96 : decode cX2_valueAt 96 = .ok (.ireturn, 1) := by decide +kernel
theorem dX2_valueAt_97 : decode cX2_valueAt 97 = .ok (.iload_n 2, 1) := by decide +kernel
theorem dX2_valueAt_98 : decode cX2_valueAt 98 = .ok (.ifCond .ne 28, 3) := by decide +kernel
theorem dX2_valueAt_101 : decode cX2_valueAt 101 = .ok (.iload 5, 2) := by decide +kernel
theorem dX2_valueAt_103 : decode cX2_valueAt 103 = .ok (.aload_n 0, 1) := by decide +kernel
theorem dX2_valueAt_104 : decode cX2_valueAt 104 = .ok (.getfield 36, 3) := by decide +kernel
theorem dX2_valueAt_107 : decode cX2_valueAt 107 = .ok (.iload 4, 2) := by decide +kernel
theorem dX2_valueAt_109 : decode cX2_valueAt 109 = .ok (.iaload, 1) := by decide +kernel
theorem dX2_valueAt_110 : decode cX2_valueAt 110 = .ok (.aload_n 0, 1) := by decide +kernel
theorem dX2_valueAt_111 : decode cX2_valueAt 111 = .ok (.getfield 39, 3) := by decide +kernel
theorem dX2_valueAt_114 : decode cX2_valueAt 114 = .ok (.iload_n 3, 1) := by decide +kernel
theorem dX2_valueAt_115 : decode cX2_valueAt 115 = .ok (.bipush 42, 2) := by decide +kernel
theorem dX2_valueAt_117 : decode cX2_valueAt 117 = .ok (.imul, 1) := by decide +kernel
theorem dX2_valueAt_118 : decode cX2_valueAt 118 = .ok (.iload 4, 2) := by decide +kernel
theorem dX2_valueAt_120 : decode cX2_valueAt 120 = .ok (.iadd, 1) := by decide +kernel
theorem dX2_valueAt_121 : decode cX2_valueAt 121 = .ok (.iaload, 1) := by decide +kernel
theorem dX2_valueAt_122 : decode cX2_valueAt 122 = .ok (.invokestatic 132, 3) := by decide +kernel
theorem dX2_valueAt_125 : decode cX2_valueAt 125 = .ok (.ireturn, 1) := by decide +kernel
theorem dX2_valueAt_126 : decode cX2_valueAt 126 = .ok (.iload 5, 2) := by decide +kernel
theorem dX2_valueAt_128 : decode cX2_valueAt 128 = .ok (.aload_n 0, 1) := by decide +kernel
theorem dX2_valueAt_129 : decode cX2_valueAt 129 = .ok (.getfield 39, 3) := by decide +kernel
theorem dX2_valueAt_132 : decode cX2_valueAt 132 = .ok (.iload 4, 2) := by decide +kernel
theorem dX2_valueAt_134 : decode cX2_valueAt 134 = .ok (.bipush 42, 2) := by decide +kernel
theorem dX2_valueAt_136 : decode cX2_valueAt 136 = .ok (.imul, 1) := by decide +kernel
theorem dX2_valueAt_137 : decode cX2_valueAt 137 = .ok (.iload 4, 2) := by decide +kernel
theorem dX2_valueAt_139 : decode cX2_valueAt 139 = .ok (.iadd, 1) := by decide +kernel
theorem dX2_valueAt_140 : decode cX2_valueAt 140 = .ok (.iconst 1, 1) := by decide +kernel
theorem dX2_valueAt_141 : decode cX2_valueAt 141 = .ok (.iadd, 1) := by decide +kernel
theorem dX2_valueAt_142 : decode cX2_valueAt 142 = .ok (.iaload, 1) := by decide +kernel
theorem dX2_valueAt_143 : decode cX2_valueAt 143 = .ok (.aload_n 0, 1) := by decide +kernel
theorem dX2_valueAt_144 : decode cX2_valueAt 144 = .ok (.getfield 42, 3) := by decide +kernel
theorem dX2_valueAt_147 : decode cX2_valueAt 147 = .ok (.iload 4, 2) := by decide +kernel
theorem dX2_valueAt_149 : decode cX2_valueAt 149 = .ok (.iaload, 1) := by decide +kernel
theorem dX2_valueAt_150 : decode cX2_valueAt 150 = .ok (.invokestatic 132, 3) := by decide +kernel
theorem dX2_valueAt_153 : decode cX2_valueAt 153 = .ok (.ireturn, 1) := by decide +kernel
theorem dX3_init_0 : decode cX3_init 0 = .ok (.aload_n 0, 1) := by decide +kernel
theorem dX3_init_1 : decode cX3_init 1 = .ok (.invokespecial 3, 3) := by decide +kernel
theorem dX3_init_4 : decode cX3_init 4 = .ok (.aload_n 0, 1) := by decide +kernel
theorem dX3_init_5 : decode cX3_init 5 = .ok (.bipush 123, 2) := by decide +kernel
theorem dX3_init_7 : decode cX3_init 7 = .ok (.newarray .int, 2) := by decide +kernel
theorem dX3_init_9 : decode cX3_init 9 = .ok (.putfield 9, 3) := by decide +kernel
theorem dX3_init_12 : decode cX3_init 12 = .ok (.aload_n 0, 1) := by decide +kernel
theorem dX3_init_13 : decode cX3_init 13 = .ok (.bipush 9, 2) := by decide +kernel
theorem dX3_init_15 : decode cX3_init 15 = .ok (.newarray .int, 2) := by decide +kernel
theorem dX3_init_17 : decode cX3_init 17 = .ok (.putfield 15, 3) := by decide +kernel
theorem dX3_init_20 : decode cX3_init 20 = .ok (.return_, 1) := by decide +kernel
theorem dX3_oddsOf_0 : decode cX3_oddsOf 0 = .ok (.iload_n 1, 1) := by decide +kernel
theorem dX3_oddsOf_1 : decode cX3_oddsOf 1 = .ok (.ifCond .lt 19, 3) := by decide +kernel
theorem dX3_oddsOf_4 : decode cX3_oddsOf 4 = .ok (.iload_n 1, 1) := by decide +kernel
theorem dX3_oddsOf_5 : decode cX3_oddsOf 5 = .ok (.iconst 3, 1) := by decide +kernel
theorem dX3_oddsOf_6 : decode cX3_oddsOf 6 = .ok (.if_icmp .ge 14, 3) := by decide +kernel
theorem dX3_oddsOf_9 : decode cX3_oddsOf 9 = .ok (.iload_n 2, 1) := by decide +kernel
theorem dX3_oddsOf_10 : decode cX3_oddsOf 10 = .ok (.iconst 1, 1) := by decide +kernel
theorem dX3_oddsOf_11 : decode cX3_oddsOf 11 = .ok (.if_icmp .lt 9, 3) := by decide +kernel
theorem dX3_oddsOf_14 : decode cX3_oddsOf 14 = .ok (.iload_n 2, 1) := by decide +kernel
theorem dX3_oddsOf_15 : decode cX3_oddsOf 15 = .ok (.bipush 40, 2) := by decide +kernel
theorem dX3_oddsOf_17 : decode cX3_oddsOf 17 = .ok (.if_icmp .le 5, 3) := by decide +kernel
theorem dX3_oddsOf_20 : decode cX3_oddsOf 20 = .ok (.iconst 0, 1) := by decide +kernel
theorem dX3_oddsOf_21 : decode cX3_oddsOf 21 = .ok (.ireturn, 1) := by decide +kernel
theorem dX3_oddsOf_22 : decode cX3_oddsOf 22 = .ok (.iconst 0, 1) := by decide +kernel
theorem dX3_oddsOf_23 : decode cX3_oddsOf 23 = .ok (.aload_n 0, 1) := by decide +kernel
theorem dX3_oddsOf_24 : decode cX3_oddsOf 24 = .ok (.getfield 9, 3) := by decide +kernel
theorem dX3_oddsOf_27 : decode cX3_oddsOf 27 = .ok (.iload_n 1, 1) := by decide +kernel
theorem dX3_oddsOf_28 : decode cX3_oddsOf 28 = .ok (.bipush 41, 2) := by decide +kernel
theorem dX3_oddsOf_30 : decode cX3_oddsOf 30 = .ok (.imul, 1) := by decide +kernel
theorem dX3_oddsOf_31 : decode cX3_oddsOf 31 = .ok (.iload_n 2, 1) := by decide +kernel
theorem dX3_oddsOf_32 : decode cX3_oddsOf 32 = .ok (.iadd, 1) := by decide +kernel
theorem dX3_oddsOf_33 : decode cX3_oddsOf 33 = .ok (.iaload, 1) := by decide +kernel
theorem dX3_oddsOf_34 : decode cX3_oddsOf 34 = .ok (.iload_n 3, 1) := by decide +kernel
theorem dX3_oddsOf_35 : decode cX3_oddsOf 35 = .ok (.isub, 1) := by decide +kernel
theorem dX3_oddsOf_36 : decode cX3_oddsOf 36 = .ok (.invokestatic 18, 3) := by decide +kernel
theorem dX3_oddsOf_39 : decode cX3_oddsOf 39 = .ok (.ireturn, 1) := by decide +kernel
theorem dX3_leadsLike_0 : decode cX3_leadsLike 0 = .ok (.aload_n 0, 1) := by decide +kernel
theorem dX3_leadsLike_1 : decode cX3_leadsLike 1 = .ok (.getfield 24, 3) := by decide +kernel
theorem dX3_leadsLike_4 : decode cX3_leadsLike 4 = .ok (.aload_n 1, 1) := by decide +kernel
theorem dX3_leadsLike_5 : decode cX3_leadsLike 5 = .ok (.getfield 24, 3) := by decide +kernel
theorem dX3_leadsLike_8 : decode cX3_leadsLike 8 = .ok (.if_icmp .eq 22, 3) := by decide +kernel
theorem dX3_leadsLike_11 : decode cX3_leadsLike 11 = .ok (.aload_n 0, 1) := by decide +kernel
theorem dX3_leadsLike_12 : decode cX3_leadsLike 12 = .ok (.getfield 24, 3) := by decide +kernel
theorem dX3_leadsLike_15 : decode cX3_leadsLike 15 = .ok (.aload_n 1, 1) := by decide +kernel
theorem dX3_leadsLike_16 : decode cX3_leadsLike 16 = .ok (.getfield 24, 3) := by decide +kernel
theorem dX3_leadsLike_19 : decode cX3_leadsLike 19 = .ok (.if_icmp .ge 7, 3) := by decide +kernel
theorem dX3_leadsLike_22 : decode cX3_leadsLike 22 = .ok (.iconst 1, 1) := by decide +kernel
theorem dX3_leadsLike_23 : decode cX3_leadsLike 23 = .ok (.goto 23, 3) := by decide +kernel
theorem dX3_leadsLike_26 : decode cX3_leadsLike 26 = .ok (.iconst 0, 1) := by decide +kernel
theorem dX3_leadsLike_27 : decode cX3_leadsLike 27 = .ok (.goto 19, 3) := by decide +kernel
theorem dX3_leadsLike_30 : decode cX3_leadsLike 30 = .ok (.aload_n 0, 1) := by decide +kernel
theorem dX3_leadsLike_31 : decode cX3_leadsLike 31 = .ok (.getfield 28, 3) := by decide +kernel
theorem dX3_leadsLike_34 : decode cX3_leadsLike 34 = .ok (.aload_n 1, 1) := by decide +kernel
theorem dX3_leadsLike_35 : decode cX3_leadsLike 35 = .ok (.getfield 28, 3) := by decide +kernel
theorem dX3_leadsLike_38 : decode cX3_leadsLike 38 = .ok (.if_icmp .ge 7, 3) := by decide +kernel
theorem dX3_leadsLike_41 : decode cX3_leadsLike 41 = .ok (.iconst 1, 1) := by decide +kernel
theorem dX3_leadsLike_42 : decode cX3_leadsLike 42 = .ok (.goto 4, 3) := by decide +kernel
theorem dX3_leadsLike_45 : decode cX3_leadsLike 45 = .ok (.iconst 0, 1) := by decide +kernel
theorem dX3_leadsLike_46 : decode cX3_leadsLike 46 = .ok (.ireturn, 1) := by decide +kernel
theorem dX3_clearTable_0 : decode cX3_clearTable 0 = .ok (.iconst 0, 1) := by decide +kernel
theorem dX3_clearTable_1 : decode cX3_clearTable 1 = .ok (.istore_n 2, 1) := by decide +kernel
theorem dX3_clearTable_2 : decode cX3_clearTable 2 = .ok (.iload_n 2, 1) := by decide +kernel
theorem dX3_clearTable_3 : decode cX3_clearTable 3 = .ok (.bipush 40, 2) := by decide +kernel
theorem dX3_clearTable_5 : decode cX3_clearTable 5 = .ok (.if_icmp .gt 21, 3) := by decide +kernel
theorem dX3_clearTable_8 : decode cX3_clearTable 8 = .ok (.aload_n 0, 1) := by decide +kernel
theorem dX3_clearTable_9 : decode cX3_clearTable 9 = .ok (.getfield 9, 3) := by decide +kernel
theorem dX3_clearTable_12 : decode cX3_clearTable 12 = .ok (.iload_n 1, 1) := by decide +kernel
theorem dX3_clearTable_13 : decode cX3_clearTable 13 = .ok (.bipush 41, 2) := by decide +kernel
theorem dX3_clearTable_15 : decode cX3_clearTable 15 = .ok (.imul, 1) := by decide +kernel
theorem dX3_clearTable_16 : decode cX3_clearTable 16 = .ok (.iload_n 2, 1) := by decide +kernel
theorem dX3_clearTable_17 : decode cX3_clearTable 17 = .ok (.iadd, 1) := by decide +kernel
theorem dX3_clearTable_18 : decode cX3_clearTable 18 = .ok (.iconst 0, 1) := by decide +kernel
theorem dX3_clearTable_19 : decode cX3_clearTable 19 = .ok (.iastore, 1) := by decide +kernel
theorem dX3_clearTable_20 : decode cX3_clearTable 20 = .ok (.iinc 2 1, 3) := by decide +kernel
theorem dX3_clearTable_23 : decode cX3_clearTable 23 = .ok (.goto (-21), 3) := by decide +kernel
theorem dX3_clearTable_26 : decode cX3_clearTable 26 = .ok (.return_, 1) := by decide +kernel
theorem dX3_spread_0 : decode cX3_spread 0 = .ok (.iload 4, 2) := by decide +kernel
theorem dX3_spread_2 : decode cX3_spread 2 = .ok (.iload_n 2, 1) := by decide +kernel
theorem dX3_spread_3 : decode cX3_spread 3 = .ok (.isub, 1) := by decide +kernel
theorem dX3_spread_4 : decode cX3_spread 4 = .ok (.istore 6, 2) := by decide +kernel
theorem dX3_spread_6 : decode cX3_spread 6 = .ok (.iload 6, 2) := by decide +kernel
theorem dX3_spread_8 : decode cX3_spread 8 = .ok (.ifCond .gt 4, 3) := by decide +kernel
theorem dX3_spread_11 : decode cX3_spread 11 = .ok (.return_, 1) := by decide +kernel
theorem dX3_spread_12 : decode cX3_spread 12 = .ok (.iload_n 2, 1) := by decide +kernel
theorem dX3_spread_13 : decode cX3_spread 13 = .ok (.iconst 1, 1) := by decide +kernel
theorem dX3_spread_14 : decode cX3_spread 14 = .ok (.iadd, 1) := by decide +kernel
theorem dX3_spread_15 : decode cX3_spread 15 = .ok (.istore 7, 2) := by decide +kernel
theorem dX3_spread_17 : decode cX3_spread 17 = .ok (.iload 7, 2) := by decide +kernel
theorem dX3_spread_19 : decode cX3_spread 19 = .ok (.iload 4, 2) := by decide +kernel
theorem dX3_spread_21 : decode cX3_spread 21 = .ok (.if_icmp .gt 42, 3) := by decide +kernel
theorem dX3_spread_24 : decode cX3_spread 24 = .ok (.iload 7, 2) := by decide +kernel
theorem dX3_spread_26 : decode cX3_spread 26 = .ok (.bipush 40, 2) := by decide +kernel
theorem dX3_spread_28 : decode cX3_spread 28 = .ok (.if_icmp .gt 35, 3) := by decide +kernel
theorem dX3_spread_31 : decode cX3_spread 31 = .ok (.aload_n 0, 1) := by decide +kernel
theorem dX3_spread_32 : decode cX3_spread 32 = .ok (.getfield 9, 3) := by decide +kernel
theorem dX3_spread_35 : decode cX3_spread 35 = .ok (.iload_n 1, 1) := by decide +kernel
theorem dX3_spread_36 : decode cX3_spread 36 = .ok (.bipush 41, 2) := by decide +kernel
theorem dX3_spread_38 : decode cX3_spread 38 = .ok (.imul, 1) := by decide +kernel
theorem dX3_spread_39 : decode cX3_spread 39 = .ok (.iload 7, 2) := by decide +kernel
theorem dX3_spread_41 : decode cX3_spread 41 = .ok (.iadd, 1) := by decide +kernel
theorem dX3_spread_42 : decode cX3_spread 42 = .ok (.iload_n 3, 1) := by decide +kernel
theorem dX3_spread_43 : decode cX3_spread 43 = .ok (.iload_n 3, 1) := by decide +kernel
theorem dX3_spread_44 : decode cX3_spread 44 = .ok (.iload 5, 2) := by decide +kernel
theorem dX3_spread_46 : decode cX3_spread 46 = .ok (.isub, 1) := by decide +kernel
theorem dX3_spread_47 : decode cX3_spread 47 = .ok (.iload 7, 2) := by decide +kernel
theorem dX3_spread_49 : decode cX3_spread 49 = .ok (.iload_n 2, 1) := by decide +kernel
theorem dX3_spread_50 : decode cX3_spread 50 = .ok (.isub, 1) := by decide +kernel
theorem dX3_spread_51 : decode cX3_spread 51 = .ok (.imul, 1) := by decide +kernel
theorem dX3_spread_52 : decode cX3_spread 52 = .ok (.iload 6, 2) := by decide +kernel
theorem dX3_spread_54 : decode cX3_spread 54 = .ok (.idiv, 1) := by decide +kernel
theorem dX3_spread_55 : decode cX3_spread 55 = .ok (.isub, 1) := by decide +kernel
theorem dX3_spread_56 : decode cX3_spread 56 = .ok (.iastore, 1) := by decide +kernel
theorem dX3_spread_57 : decode cX3_spread 57 = .ok (.iinc 7 1, 3) := by decide +kernel
theorem dX3_spread_60 : decode cX3_spread 60 = .ok (.goto (-43), 3) := by decide +kernel
theorem dX3_spread_63 : decode cX3_spread 63 = .ok (.return_, 1) := by decide +kernel
theorem dX4_init_0 : decode cX4_init 0 = .ok (.aload_n 0, 1) := by decide +kernel
theorem dX4_init_1 : decode cX4_init 1 = .ok (.invokespecial 3, 3) := by decide +kernel
theorem dX4_init_4 : decode cX4_init 4 = .ok (.aload_n 0, 1) := by decide +kernel
theorem dX4_init_5 : decode cX4_init 5 = .ok (.iconst 0, 1) := by decide +kernel
theorem dX4_init_6 : decode cX4_init 6 = .ok (.putfield 9, 3) := by decide +kernel
theorem dX4_init_9 : decode cX4_init 9 = .ok (.aload_n 0, 1) := by decide +kernel
theorem dX4_init_10 : decode cX4_init 10 = .ok (.iconst 0, 1) := by decide +kernel
theorem dX4_init_11 : decode cX4_init 11 = .ok (.putfield 15, 3) := by decide +kernel
theorem dX4_init_14 : decode cX4_init 14 = .ok (.aload_n 0, 1) := by decide +kernel
theorem dX4_init_15 : decode cX4_init 15 = .ok (.iconst 0, 1) := by decide +kernel
theorem dX4_init_16 : decode cX4_init 16 = .ok (.putfield 18, 3) := by decide +kernel
theorem dX4_init_19 : decode cX4_init 19 = .ok (.aload_n 0, 1) := by decide +kernel
theorem dX4_init_20 : decode cX4_init 20 = .ok (.iconst 0, 1) := by decide +kernel
theorem dX4_init_21 : decode cX4_init 21 = .ok (.putfield 21, 3) := by decide +kernel
theorem dX4_init_24 : decode cX4_init 24 = .ok (.aload_n 0, 1) := by decide +kernel
theorem dX4_init_25 : decode cX4_init 25 = .ok (.iconst 0, 1) := by decide +kernel
theorem dX4_init_26 : decode cX4_init 26 = .ok (.putfield 24, 3) := by decide +kernel
theorem dX4_init_29 : decode cX4_init 29 = .ok (.aload_n 0, 1) := by decide +kernel
theorem dX4_init_30 : decode cX4_init 30 = .ok (.bipush 6, 2) := by decide +kernel
theorem dX4_init_32 : decode cX4_init 32 = .ok (.newarray .int, 2) := by decide +kernel
theorem dX4_init_34 : decode cX4_init 34 = .ok (.putfield 27, 3) := by decide +kernel
theorem dX4_init_37 : decode cX4_init 37 = .ok (.aload_n 0, 1) := by decide +kernel
theorem dX4_init_38 : decode cX4_init 38 = .ok (.bipush 6, 2) := by decide +kernel
theorem dX4_init_40 : decode cX4_init 40 = .ok (.newarray .boolean, 2) := by decide +kernel
theorem dX4_init_42 : decode cX4_init 42 = .ok (.putfield 31, 3) := by decide +kernel
theorem dX4_init_45 : decode cX4_init 45 = .ok (.aload_n 0, 1) := by decide +kernel
theorem dX4_init_46 : decode cX4_init 46 = .ok (.bipush 6, 2) := by decide +kernel
theorem dX4_init_48 : decode cX4_init 48 = .ok (.newarray .int, 2) := by decide +kernel
theorem dX4_init_50 : decode cX4_init 50 = .ok (.putfield 35, 3) := by decide +kernel
theorem dX4_init_53 : decode cX4_init 53 = .ok (.aload_n 0, 1) := by decide +kernel
theorem dX4_init_54 : decode cX4_init 54 = .ok (.bipush 6, 2) := by decide +kernel
theorem dX4_init_56 : decode cX4_init 56 = .ok (.newarray .boolean, 2) := by decide +kernel
theorem dX4_init_58 : decode cX4_init 58 = .ok (.putfield 38, 3) := by decide +kernel
theorem dX4_init_61 : decode cX4_init 61 = .ok (.aload_n 0, 1) := by decide +kernel
theorem dX4_init_62 : decode cX4_init 62 = .ok (.bipush 18, 2) := by decide +kernel
theorem dX4_init_64 : decode cX4_init 64 = .ok (.newarray .int, 2) := by decide +kernel
theorem dX4_init_66 : decode cX4_init 66 = .ok (.putfield 41, 3) := by decide +kernel
theorem dX4_init_69 : decode cX4_init 69 = .ok (.aload_n 0, 1) := by decide +kernel
theorem dX4_init_70 : decode cX4_init 70 = .ok (.bipush 6, 2) := by decide +kernel
theorem dX4_init_72 : decode cX4_init 72 = .ok (.newarray .int, 2) := by decide +kernel
theorem dX4_init_74 : decode cX4_init 74 = .ok (.putfield 44, 3) := by decide +kernel
theorem dX4_init_77 : decode cX4_init 77 = .ok (.aload_n 0, 1) := by decide +kernel
theorem dX4_init_78 : decode cX4_init 78 = .ok (.bipush 6, 2) := by decide +kernel
theorem dX4_init_80 : decode cX4_init 80 = .ok (.newarray .int, 2) := by decide +kernel
theorem dX4_init_82 : decode cX4_init 82 = .ok (.putfield 47, 3) := by decide +kernel
theorem dX4_init_85 : decode cX4_init 85 = .ok (.aload_n 0, 1) := by decide +kernel
theorem dX4_init_86 : decode cX4_init 86 = .ok (.sipush 216, 3) := by decide +kernel
theorem dX4_init_89 : decode cX4_init 89 = .ok (.newarray .int, 2) := by decide +kernel
theorem dX4_init_91 : decode cX4_init 91 = .ok (.putfield 50, 3) := by decide +kernel
theorem dX4_init_94 : decode cX4_init 94 = .ok (.aload_n 0, 1) := by decide +kernel
theorem dX4_init_95 : decode cX4_init 95 = .ok (.iconst 0, 1) := by decide +kernel
theorem dX4_init_96 : decode cX4_init 96 = .ok (.putfield 53, 3) := by decide +kernel
theorem dX4_init_99 : decode cX4_init 99 = .ok (.aload_n 0, 1) := by decide +kernel
theorem dX4_init_100 : decode cX4_init 100 = .ok (.iconst 0, 1) := by decide +kernel
theorem dX4_init_101 : decode cX4_init 101 = .ok (.putfield 56, 3) := by decide +kernel
theorem dX4_init_104 : decode cX4_init 104 = .ok (.aload_n 0, 1) := by decide +kernel
theorem dX4_init_105 : decode cX4_init 105 = .ok (.aload_n 1, 1) := by decide +kernel
theorem dX4_init_106 : decode cX4_init 106 = .ok (.putfield 59, 3) := by decide +kernel
theorem dX4_init_109 : decode cX4_init 109 = .ok (.return_, 1) := by decide +kernel
theorem dX4_open_0 : decode cX4_open 0 = .ok (.aload_n 0, 1) := by decide +kernel
theorem dX4_open_1 : decode cX4_open 1 = .ok (.iconst 0, 1) := by decide +kernel
theorem dX4_open_2 : decode cX4_open 2 = .ok (.putfield 18, 3) := by decide +kernel
theorem dX4_open_5 : decode cX4_open 5 = .ok (.aload_n 0, 1) := by decide +kernel
theorem dX4_open_6 : decode cX4_open 6 = .ok (.iconst 0, 1) := by decide +kernel
theorem dX4_open_7 : decode cX4_open 7 = .ok (.putfield 53, 3) := by decide +kernel
theorem dX4_open_10 : decode cX4_open 10 = .ok (.aload_n 0, 1) := by decide +kernel
theorem dX4_open_11 : decode cX4_open 11 = .ok (.iconst 0, 1) := by decide +kernel
theorem dX4_open_12 : decode cX4_open 12 = .ok (.putfield 56, 3) := by decide +kernel
theorem dX4_open_15 : decode cX4_open 15 = .ok (.iconst 0, 1) := by decide +kernel
theorem dX4_open_16 : decode cX4_open 16 = .ok (.istore_n 1, 1) := by decide +kernel
theorem dX4_open_17 : decode cX4_open 17 = .ok (.iload_n 1, 1) := by decide +kernel
theorem dX4_open_18 : decode cX4_open 18 = .ok (.bipush 6, 2) := by decide +kernel
theorem dX4_open_20 : decode cX4_open 20 = .ok (.if_icmp .ge 16, 3) := by decide +kernel
theorem dX4_open_23 : decode cX4_open 23 = .ok (.aload_n 0, 1) := by decide +kernel
theorem dX4_open_24 : decode cX4_open 24 = .ok (.getfield 38, 3) := by decide +kernel
theorem dX4_open_27 : decode cX4_open 27 = .ok (.iload_n 1, 1) := by decide +kernel
theorem dX4_open_28 : decode cX4_open 28 = .ok (.iconst 0, 1) := by decide +kernel
theorem dX4_open_29 : decode cX4_open 29 = .ok (.bastore, 1) := by decide +kernel
theorem dX4_open_30 : decode cX4_open 30 = .ok (.iinc 1 1, 3) := by decide +kernel
theorem dX4_open_33 : decode cX4_open 33 = .ok (.goto (-16), 3) := by decide +kernel
theorem dX4_open_36 : decode cX4_open 36 = .ok (.iconst 0, 1) := by decide +kernel
theorem dX4_open_37 : decode cX4_open 37 = .ok (.istore_n 1, 1) := by decide +kernel
theorem dX4_open_38 : decode cX4_open 38 = .ok (.iload_n 1, 1) := by decide +kernel
theorem dX4_open_39 : decode cX4_open 39 = .ok (.aload_n 0, 1) := by decide +kernel
theorem dX4_open_40 : decode cX4_open 40 = .ok (.getfield 41, 3) := by decide +kernel
theorem dX4_open_43 : decode cX4_open 43 = .ok (.arraylength, 1) := by decide +kernel
theorem dX4_open_44 : decode cX4_open 44 = .ok (.if_icmp .ge 16, 3) := by decide +kernel
theorem dX4_open_47 : decode cX4_open 47 = .ok (.aload_n 0, 1) := by decide +kernel
theorem dX4_open_48 : decode cX4_open 48 = .ok (.getfield 41, 3) := by decide +kernel
theorem dX4_open_51 : decode cX4_open 51 = .ok (.iload_n 1, 1) := by decide +kernel
theorem dX4_open_52 : decode cX4_open 52 = .ok (.iconst 0, 1) := by decide +kernel
theorem dX4_open_53 : decode cX4_open 53 = .ok (.iastore, 1) := by decide +kernel
theorem dX4_open_54 : decode cX4_open 54 = .ok (.iinc 1 1, 3) := by decide +kernel
theorem dX4_open_57 : decode cX4_open 57 = .ok (.goto (-19), 3) := by decide +kernel
theorem dX4_open_60 : decode cX4_open 60 = .ok (.aload_n 0, 1) := by decide +kernel
theorem dX4_open_61 : decode cX4_open 61 = .ok (.invokevirtual 63, 3) := by decide +kernel
theorem dX4_open_64 : decode cX4_open 64 = .ok (.return_, 1) := by decide +kernel
theorem dX4_openLift_0 : decode cX4_openLift 0 = .ok (.iconst 0, 1) := by decide +kernel
theorem dX4_openLift_1 : decode cX4_openLift 1 = .ok (.istore_n 1, 1) := by decide +kernel
theorem dX4_openLift_2 : decode cX4_openLift 2 = .ok (.iload_n 1, 1) := by decide +kernel
theorem dX4_openLift_3 : decode cX4_openLift 3 = .ok (.bipush 6, 2) := by decide +kernel
theorem dX4_openLift_5 : decode cX4_openLift 5 = .ok (.if_icmp .ge 84, 3) := by decide +kernel
theorem dX4_openLift_8 : decode cX4_openLift 8 = .ok (.iload_n 1, 1) := by decide +kernel
theorem dX4_openLift_9 : decode cX4_openLift 9 = .ok (.aload_n 0, 1) := by decide +kernel
theorem dX4_openLift_10 : decode cX4_openLift 10 = .ok (.getfield 9, 3) := by decide +kernel
theorem dX4_openLift_13 : decode cX4_openLift 13 = .ok (.if_icmp .ge 24, 3) := by decide +kernel
theorem dX4_openLift_16 : decode cX4_openLift 16 = .ok (.aload_n 0, 1) := by decide +kernel
theorem dX4_openLift_17 : decode cX4_openLift 17 = .ok (.getfield 18, 3) := by decide +kernel
theorem dX4_openLift_20 : decode cX4_openLift 20 = .ok (.iconst 3, 1) := by decide +kernel
theorem dX4_openLift_21 : decode cX4_openLift 21 = .ok (.if_icmp .ge 16, 3) := by decide +kernel
theorem dX4_openLift_24 : decode cX4_openLift 24 = .ok (.aload_n 0, 1) := by decide +kernel
theorem dX4_openLift_25 : decode cX4_openLift 25 = .ok (.getfield 38, 3) := by decide +kernel
theorem dX4_openLift_28 : decode cX4_openLift 28 = .ok (.iload_n 1, 1) := by decide +kernel
theorem dX4_openLift_29 : decode cX4_openLift 29 = .ok (.baload, 1) := by decide +kernel
theorem dX4_openLift_30 : decode cX4_openLift 30 = .ok (.ifCond .ne 7, 3) := by decide +kernel
theorem dX4_openLift_33 : decode cX4_openLift 33 = .ok (.iconst 1, 1) := by decide +kernel
theorem dX4_openLift_34 : decode cX4_openLift 34 = .ok (.goto 4, 3) := by decide +kernel
theorem dX4_openLift_37 : decode cX4_openLift 37 = .ok (.iconst 0, 1) := by decide +kernel
theorem dX4_openLift_38 : decode cX4_openLift 38 = .ok (.istore_n 2, 1) := by decide +kernel
theorem dX4_openLift_39 : decode cX4_openLift 39 = .ok (.aload_n 0, 1) := by decide +kernel
theorem dX4_openLift_40 : decode cX4_openLift 40 = .ok (.getfield 27, 3) := by decide +kernel
theorem dX4_openLift_43 : decode cX4_openLift 43 = .ok (.iload_n 1, 1) := by decide +kernel
theorem dX4_openLift_44 : decode cX4_openLift 44 = .ok (.iload_n 2, 1) := by decide +kernel
theorem dX4_openLift_45 : decode cX4_openLift 45 = .ok (.ifCond .eq 22, 3) := by decide +kernel
theorem dX4_openLift_48 : decode cX4_openLift 48 = .ok (.aload_n 0, 1) := by decide +kernel
theorem dX4_openLift_49 : decode cX4_openLift 49 = .ok (.getfield 59, 3) := by decide +kernel
theorem dX4_openLift_52 : decode cX4_openLift 52 = .ok (.iload_n 1, 1) := by decide +kernel
theorem dX4_openLift_53 : decode cX4_openLift 53 = .ok (.aaload, 1) := by decide +kernel
theorem dX4_openLift_54 : decode cX4_openLift 54 = .ok (.getfield 66, 3) := by decide +kernel
theorem dX4_openLift_57 : decode cX4_openLift 57 = .ok (.aload_n 0, 1) := by decide +kernel
theorem dX4_openLift_58 : decode cX4_openLift 58 = .ok (.getfield 18, 3) := by decide +kernel
theorem dX4_openLift_61 : decode cX4_openLift 61 = .ok (.iconst 3, 1) := by decide +kernel
theorem dX4_openLift_62 : decode cX4_openLift 62 = .ok (.imul, 1) := by decide +kernel
theorem dX4_openLift_63 : decode cX4_openLift 63 = .ok (.iaload, 1) := by decide +kernel
theorem dX4_openLift_64 : decode cX4_openLift 64 = .ok (.goto 4, 3) := by decide +kernel
theorem dX4_openLift_67 : decode cX4_openLift 67 = .ok (.iconst 0, 1) := by decide +kernel
theorem dX4_openLift_68 : decode cX4_openLift 68 = .ok (.iastore, 1) := by decide +kernel
theorem dX4_openLift_69 : decode cX4_openLift 69 = .ok (.aload_n 0, 1) := by decide +kernel
theorem dX4_openLift_70 : decode cX4_openLift 70 = .ok (.getfield 44, 3) := by decide +kernel
theorem dX4_openLift_73 : decode cX4_openLift 73 = .ok (.iload_n 1, 1) := by decide +kernel
theorem dX4_openLift_74 : decode cX4_openLift 74 = .ok (.iconst 0, 1) := by decide +kernel
theorem dX4_openLift_75 : decode cX4_openLift 75 = .ok (.iastore, 1) := by decide +kernel
theorem dX4_openLift_76 : decode cX4_openLift 76 = .ok (.aload_n 0, 1) := by decide +kernel
theorem dX4_openLift_77 : decode cX4_openLift 77 = .ok (.getfield 47, 3) := by decide +kernel
theorem dX4_openLift_80 : decode cX4_openLift 80 = .ok (.iload_n 1, 1) := by decide +kernel
theorem dX4_openLift_81 : decode cX4_openLift 81 = .ok (.iconst 1, 1) := by decide +kernel
theorem dX4_openLift_82 : decode cX4_openLift 82 = .ok (.iastore, 1) := by decide +kernel
theorem dX4_openLift_83 : decode cX4_openLift 83 = .ok (.iinc 1 1, 3) := by decide +kernel
theorem dX4_openLift_86 : decode cX4_openLift 86 = .ok (.goto (-84), 3) := by decide +kernel
theorem dX4_openLift_89 : decode cX4_openLift 89 = .ok (.aload_n 0, 1) := by decide +kernel
theorem dX4_openLift_90 : decode cX4_openLift 90 = .ok (.iconst 0, 1) := by decide +kernel
theorem dX4_openLift_91 : decode cX4_openLift 91 = .ok (.invokevirtual 71, 3) := by decide +kernel
theorem dX4_openLift_94 : decode cX4_openLift 94 = .ok (.return_, 1) := by decide +kernel
theorem dX4_openRound_0 : decode cX4_openRound 0 = .ok (.aload_n 0, 1) := by decide +kernel
theorem dX4_openRound_1 : decode cX4_openRound 1 = .ok (.iload_n 1, 1) := by decide +kernel
theorem dX4_openRound_2 : decode cX4_openRound 2 = .ok (.putfield 21, 3) := by decide +kernel
theorem dX4_openRound_5 : decode cX4_openRound 5 = .ok (.aload_n 0, 1) := by decide +kernel
theorem dX4_openRound_6 : decode cX4_openRound 6 = .ok (.iconst 0, 1) := by decide +kernel
theorem dX4_openRound_7 : decode cX4_openRound 7 = .ok (.putfield 24, 3) := by decide +kernel
theorem dX4_openRound_10 : decode cX4_openRound 10 = .ok (.aload_n 0, 1) := by decide +kernel
theorem dX4_openRound_11 : decode cX4_openRound 11 = .ok (.getfield 18, 3) := by decide +kernel
theorem dX4_openRound_14 : decode cX4_openRound 14 = .ok (.iconst 3, 1) := by decide +kernel
theorem dX4_openRound_15 : decode cX4_openRound 15 = .ok (.if_icmp .lt 7, 3) := by decide +kernel
theorem dX4_openRound_18 : decode cX4_openRound 18 = .ok (.iconst 0, 1) := by decide +kernel
theorem dX4_openRound_19 : decode cX4_openRound 19 = .ok (.goto 35, 3) := by decide +kernel
theorem dX4_openRound_22 : decode cX4_openRound 22 = .ok (.aload_n 0, 1) := by decide +kernel
theorem dX4_openRound_23 : decode cX4_openRound 23 = .ok (.getfield 21, 3) := by decide +kernel
theorem dX4_openRound_26 : decode cX4_openRound 26 = .ok (.ifCond .ne 7, 3) := by decide +kernel
theorem dX4_openRound_29 : decode cX4_openRound 29 = .ok (.iconst 1, 1) := by decide +kernel
theorem dX4_openRound_30 : decode cX4_openRound 30 = .ok (.goto 24, 3) := by decide +kernel
theorem dX4_openRound_33 : decode cX4_openRound 33 = .ok (.aload_n 0, 1) := by decide +kernel
theorem dX4_openRound_34 : decode cX4_openRound 34 = .ok (.getfield 18, 3) := by decide +kernel
theorem dX4_openRound_37 : decode cX4_openRound 37 = .ok (.iconst 2, 1) := by decide +kernel
theorem dX4_openRound_38 : decode cX4_openRound 38 = .ok (.if_icmp .ne 15, 3) := by decide +kernel
theorem dX4_openRound_41 : decode cX4_openRound 41 = .ok (.aload_n 0, 1) := by decide +kernel
theorem dX4_openRound_42 : decode cX4_openRound 42 = .ok (.getfield 21, 3) := by decide +kernel
theorem dX4_openRound_45 : decode cX4_openRound 45 = .ok (.iconst 2, 1) := by decide +kernel
theorem dX4_openRound_46 : decode cX4_openRound 46 = .ok (.if_icmp .ne 7, 3) := by decide +kernel
theorem dX4_openRound_49 : decode cX4_openRound 49 = .ok (.iconst 2, 1) := by decide +kernel
theorem dX4_openRound_50 : decode cX4_openRound 50 = .ok (.goto 4, 3) := by decide +kernel
theorem dX4_openRound_53 : decode cX4_openRound 53 = .ok (.iconst 0, 1) := by decide +kernel
theorem dX4_openRound_54 : decode cX4_openRound 54 = .ok (.istore_n 2, 1) := by decide +kernel
theorem dX4_openRound_55 : decode cX4_openRound 55 = .ok (.iconst 0, 1) := by decide +kernel
theorem dX4_openRound_56 : decode cX4_openRound 56 = .ok (.istore_n 3, 1) := by decide +kernel
theorem dX4_openRound_57 : decode cX4_openRound 57 = .ok (.iload_n 3, 1) := by decide +kernel
theorem dX4_openRound_58 : decode cX4_openRound 58 = .ok (.bipush 6, 2) := by decide +kernel
theorem dX4_openRound_60 : decode cX4_openRound 60 = .ok (.if_icmp .ge 23, 3) := by decide +kernel
theorem dX4_openRound_63 : decode cX4_openRound 63 = .ok (.aload_n 0, 1) := by decide +kernel
theorem dX4_openRound_64 : decode cX4_openRound 64 = .ok (.getfield 31, 3) := by decide +kernel
theorem dX4_openRound_67 : decode cX4_openRound 67 = .ok (.iload_n 3, 1) := by decide +kernel
theorem dX4_openRound_68 : decode cX4_openRound 68 = .ok (.iconst 0, 1) := by decide +kernel
theorem dX4_openRound_69 : decode cX4_openRound 69 = .ok (.bastore, 1) := by decide +kernel
theorem dX4_openRound_70 : decode cX4_openRound 70 = .ok (.aload_n 0, 1) := by decide +kernel
theorem dX4_openRound_71 : decode cX4_openRound 71 = .ok (.getfield 35, 3) := by decide +kernel
theorem dX4_openRound_74 : decode cX4_openRound 74 = .ok (.iload_n 3, 1) := by decide +kernel
theorem dX4_openRound_75 : decode cX4_openRound 75 = .ok (.iload_n 2, 1) := by decide +kernel
theorem dX4_openRound_76 : decode cX4_openRound 76 = .ok (.iastore, 1) := by decide +kernel
theorem dX4_openRound_77 : decode cX4_openRound 77 = .ok (.iinc 3 1, 3) := by decide +kernel
theorem dX4_openRound_80 : decode cX4_openRound 80 = .ok (.goto (-23), 3) := by decide +kernel
theorem dX4_openRound_83 : decode cX4_openRound 83 = .ok (.return_, 1) := by decide +kernel
theorem dX4_closeLift_0 : decode cX4_closeLift 0 = .ok (.iconst 0, 1) := by decide +kernel
theorem dX4_closeLift_1 : decode cX4_closeLift 1 = .ok (.istore_n 1, 1) := by decide +kernel
theorem dX4_closeLift_2 : decode cX4_closeLift 2 = .ok (.iload_n 1, 1) := by decide +kernel
theorem dX4_closeLift_3 : decode cX4_closeLift 3 = .ok (.aload_n 0, 1) := by decide +kernel
theorem dX4_closeLift_4 : decode cX4_closeLift 4 = .ok (.getfield 9, 3) := by decide +kernel
theorem dX4_closeLift_7 : decode cX4_closeLift 7 = .ok (.if_icmp .ge 32, 3) := by decide +kernel
theorem dX4_closeLift_10 : decode cX4_closeLift 10 = .ok (.aload_n 0, 1) := by decide +kernel
theorem dX4_closeLift_11 : decode cX4_closeLift 11 = .ok (.getfield 41, 3) := by decide +kernel
theorem dX4_closeLift_14 : decode cX4_closeLift 14 = .ok (.iload_n 1, 1) := by decide +kernel
theorem dX4_closeLift_15 : decode cX4_closeLift 15 = .ok (.iconst 3, 1) := by decide +kernel
theorem dX4_closeLift_16 : decode cX4_closeLift 16 = .ok (.imul, 1) := by decide +kernel
theorem dX4_closeLift_17 : decode cX4_closeLift 17 = .ok (.aload_n 0, 1) := by decide +kernel
theorem dX4_closeLift_18 : decode cX4_closeLift 18 = .ok (.getfield 18, 3) := by decide +kernel
theorem dX4_closeLift_21 : decode cX4_closeLift 21 = .ok (.iadd, 1) := by decide +kernel
theorem dX4_closeLift_22 : decode cX4_closeLift 22 = .ok (.iaload, 1) := by decide +kernel
theorem dX4_closeLift_23 : decode cX4_closeLift 23 = .ok (.ifCond .ne 10, 3) := by decide +kernel
theorem dX4_closeLift_26 : decode cX4_closeLift 26 = .ok (.aload_n 0, 1) := by decide +kernel
theorem dX4_closeLift_27 : decode cX4_closeLift 27 = .ok (.getfield 38, 3) := by decide +kernel
theorem dX4_closeLift_30 : decode cX4_closeLift 30 = .ok (.iload_n 1, 1) := by decide +kernel
theorem dX4_closeLift_31 : decode cX4_closeLift 31 = .ok (.iconst 1, 1) := by decide +kernel
theorem dX4_closeLift_32 : decode cX4_closeLift 32 = .ok (.bastore, 1) := by decide +kernel
theorem dX4_closeLift_33 : decode cX4_closeLift 33 = .ok (.iinc 1 1, 3) := by decide +kernel
theorem dX4_closeLift_36 : decode cX4_closeLift 36 = .ok (.goto (-34), 3) := by decide +kernel
theorem dX4_closeLift_39 : decode cX4_closeLift 39 = .ok (.aload_n 0, 1) := by decide +kernel
theorem dX4_closeLift_40 : decode cX4_closeLift 40 = .ok (.dup, 1) := by decide +kernel
theorem dX4_closeLift_41 : decode cX4_closeLift 41 = .ok (.getfield 18, 3) := by decide +kernel
theorem dX4_closeLift_44 : decode cX4_closeLift 44 = .ok (.iconst 1, 1) := by decide +kernel
theorem dX4_closeLift_45 : decode cX4_closeLift 45 = .ok (.iadd, 1) := by decide +kernel
theorem dX4_closeLift_46 : decode cX4_closeLift 46 = .ok (.putfield 18, 3) := by decide +kernel
theorem dX4_closeLift_49 : decode cX4_closeLift 49 = .ok (.aload_n 0, 1) := by decide +kernel
theorem dX4_closeLift_50 : decode cX4_closeLift 50 = .ok (.invokevirtual 63, 3) := by decide +kernel
theorem dX4_closeLift_53 : decode cX4_closeLift 53 = .ok (.return_, 1) := by decide +kernel
theorem dX4_goOn_0 : decode cX4_goOn 0 = .ok (.iconst 0, 1) := by decide +kernel
theorem dX4_goOn_1 : decode cX4_goOn 1 = .ok (.istore_n 1, 1) := by decide +kernel
theorem dX4_goOn_2 : decode cX4_goOn 2 = .ok (.iload_n 1, 1) := by decide +kernel
theorem dX4_goOn_3 : decode cX4_goOn 3 = .ok (.bipush 9, 2) := by decide +kernel
theorem dX4_goOn_5 : decode cX4_goOn 5 = .ok (.if_icmp .ge 56, 3) := by decide +kernel
theorem dX4_goOn_8 : decode cX4_goOn 8 = .ok (.aload_n 0, 1) := by decide +kernel
theorem dX4_goOn_9 : decode cX4_goOn 9 = .ok (.getfield 9, 3) := by decide +kernel
theorem dX4_goOn_12 : decode cX4_goOn 12 = .ok (.ifCond .le 49, 3) := by decide +kernel
theorem dX4_goOn_15 : decode cX4_goOn 15 = .ok (.aload_n 0, 1) := by decide +kernel
theorem dX4_goOn_16 : decode cX4_goOn 16 = .ok (.getfield 18, 3) := by decide +kernel
theorem dX4_goOn_19 : decode cX4_goOn 19 = .ok (.iconst 3, 1) := by decide +kernel
theorem dX4_goOn_20 : decode cX4_goOn 20 = .ok (.if_icmp .ge 41, 3) := by decide +kernel
theorem dX4_goOn_23 : decode cX4_goOn 23 = .ok (.aload_n 0, 1) := by decide +kernel
theorem dX4_goOn_24 : decode cX4_goOn 24 = .ok (.invokevirtual 75, 3) := by decide +kernel
theorem dX4_goOn_27 : decode cX4_goOn 27 = .ok (.ifCond .ge 34, 3) := by decide +kernel
theorem dX4_goOn_30 : decode cX4_goOn 30 = .ok (.aload_n 0, 1) := by decide +kernel
theorem dX4_goOn_31 : decode cX4_goOn 31 = .ok (.getfield 21, 3) := by decide +kernel
theorem dX4_goOn_34 : decode cX4_goOn 34 = .ok (.iconst 2, 1) := by decide +kernel
theorem dX4_goOn_35 : decode cX4_goOn 35 = .ok (.if_icmp .ge 16, 3) := by decide +kernel
theorem dX4_goOn_38 : decode cX4_goOn 38 = .ok (.aload_n 0, 1) := by decide +kernel
theorem dX4_goOn_39 : decode cX4_goOn 39 = .ok (.aload_n 0, 1) := by decide +kernel
theorem dX4_goOn_40 : decode cX4_goOn 40 = .ok (.getfield 21, 3) := by decide +kernel
theorem dX4_goOn_43 : decode cX4_goOn 43 = .ok (.iconst 1, 1) := by decide +kernel
theorem dX4_goOn_44 : decode cX4_goOn 44 = .ok (.iadd, 1) := by decide +kernel
theorem dX4_goOn_45 : decode cX4_goOn 45 = .ok (.invokevirtual 71, 3) := by decide +kernel
theorem dX4_goOn_48 : decode cX4_goOn 48 = .ok (.goto 7, 3) := by decide +kernel
theorem dX4_goOn_51 : decode cX4_goOn 51 = .ok (.aload_n 0, 1) := by decide +kernel
theorem dX4_goOn_52 : decode cX4_goOn 52 = .ok (.invokevirtual 79, 3) := by decide +kernel
theorem dX4_goOn_55 : decode cX4_goOn 55 = .ok (.iinc 1 1, 3) := by decide +kernel
theorem dX4_goOn_58 : decode cX4_goOn 58 = .ok (.goto (-56), 3) := by decide +kernel
theorem dX4_goOn_61 : decode cX4_goOn 61 = .ok (.return_, 1) := by decide +kernel
theorem dX4_waits_0 : decode cX4_waits 0 = .ok (.aload_n 0, 1) := by decide +kernel
theorem dX4_waits_1 : decode cX4_waits 1 = .ok (.getfield 27, 3) := by decide +kernel
theorem dX4_waits_4 : decode cX4_waits 4 = .ok (.iload_n 1, 1) := by decide +kernel
theorem dX4_waits_5 : decode cX4_waits 5 = .ok (.iaload, 1) := by decide +kernel
theorem dX4_waits_6 : decode cX4_waits 6 = .ok (.ifCond .le 16, 3) := by decide +kernel
theorem dX4_waits_9 : decode cX4_waits 9 = .ok (.aload_n 0, 1) := by decide +kernel
theorem dX4_waits_10 : decode cX4_waits 10 = .ok (.getfield 31, 3) := by decide +kernel
theorem dX4_waits_13 : decode cX4_waits 13 = .ok (.iload_n 1, 1) := by decide +kernel
theorem dX4_waits_14 : decode cX4_waits 14 = .ok (.baload, 1) := by decide +kernel
theorem dX4_waits_15 : decode cX4_waits 15 = .ok (.ifCond .ne 7, 3) := by decide +kernel
theorem dX4_waits_18 : decode cX4_waits 18 = .ok (.iconst 1, 1) := by decide +kernel
theorem dX4_waits_19 : decode cX4_waits 19 = .ok (.goto 4, 3) := by decide +kernel
theorem dX4_waits_22 : decode cX4_waits 22 = .ok (.iconst 0, 1) := by decide +kernel
theorem dX4_waits_23 : decode cX4_waits 23 = .ok (.ireturn, 1) := by decide +kernel
theorem dX4_next_0 : decode cX4_next 0 = .ok (.iconst 0, 1) := by decide +kernel
theorem dX4_next_1 : decode cX4_next 1 = .ok (.istore_n 1, 1) := by decide +kernel
theorem dX4_next_2 : decode cX4_next 2 = .ok (.iload_n 1, 1) := by decide +kernel
theorem dX4_next_3 : decode cX4_next 3 = .ok (.aload_n 0, 1) := by decide +kernel
theorem dX4_next_4 : decode cX4_next 4 = .ok (.getfield 9, 3) := by decide +kernel
theorem dX4_next_7 : decode cX4_next 7 = .ok (.if_icmp .ge 33, 3) := by decide +kernel
theorem dX4_next_10 : decode cX4_next 10 = .ok (.aload_n 0, 1) := by decide +kernel
theorem dX4_next_11 : decode cX4_next 11 = .ok (.iload_n 1, 1) := by decide +kernel
theorem dX4_next_12 : decode cX4_next 12 = .ok (.invokevirtual 82, 3) := by decide +kernel
theorem dX4_next_15 : decode cX4_next 15 = .ok (.ifCond .eq 19, 3) := by decide +kernel
theorem dX4_next_18 : decode cX4_next 18 = .ok (.aload_n 0, 1) := by decide +kernel
theorem dX4_next_19 : decode cX4_next 19 = .ok (.iload_n 1, 1) := by decide +kernel
theorem dX4_next_20 : decode cX4_next 20 = .ok (.aload_n 0, 1) := by decide +kernel
theorem dX4_next_21 : decode cX4_next 21 = .ok (.getfield 27, 3) := by decide +kernel
theorem dX4_next_24 : decode cX4_next 24 = .ok (.iload_n 1, 1) := by decide +kernel
theorem dX4_next_25 : decode cX4_next 25 = .ok (.iaload, 1) := by decide +kernel
theorem dX4_next_26 : decode cX4_next 26 = .ok (.invokevirtual 86, 3) := by decide +kernel
theorem dX4_next_29 : decode cX4_next 29 = .ok (.ifCond .ne 5, 3) := by decide +kernel
theorem dX4_next_32 : decode cX4_next 32 = .ok (.iload_n 1, 1) := by decide +kernel
theorem dX4_next_33 : decode cX4_next 33 = .ok (.ireturn, 1) := by decide +kernel
theorem dX4_next_34 : decode cX4_next 34 = .ok (.iinc 1 1, 3) := by decide +kernel
theorem dX4_next_37 : decode cX4_next 37 = .ok (.goto (-35), 3) := by decide +kernel
theorem dX4_next_40 : decode cX4_next 40 = .ok (.iconst (-1), 1) := by decide +kernel
theorem dX4_next_41 : decode cX4_next 41 = .ok (.ireturn, 1) := by decide +kernel
theorem dX4_sooner_0 : decode cX4_sooner 0 = .ok (.iconst 0, 1) := by decide +kernel
theorem dX4_sooner_1 : decode cX4_sooner 1 = .ok (.istore_n 3, 1) := by decide +kernel
theorem dX4_sooner_2 : decode cX4_sooner 2 = .ok (.iconst 0, 1) := by decide +kernel
theorem dX4_sooner_3 : decode cX4_sooner 3 = .ok (.istore 4, 2) := by decide +kernel
theorem dX4_sooner_5 : decode cX4_sooner 5 = .ok (.iload 4, 2) := by decide +kernel
theorem dX4_sooner_7 : decode cX4_sooner 7 = .ok (.aload_n 0, 1) := by decide +kernel
theorem dX4_sooner_8 : decode cX4_sooner 8 = .ok (.getfield 9, 3) := by decide +kernel
theorem dX4_sooner_11 : decode cX4_sooner 11 = .ok (.if_icmp .ge 91, 3) := by decide +kernel
theorem dX4_sooner_14 : decode cX4_sooner 14 = .ok (.iload 4, 2) := by decide +kernel
theorem dX4_sooner_16 : decode cX4_sooner 16 = .ok (.iload_n 1, 1) := by decide +kernel
theorem dX4_sooner_17 : decode cX4_sooner 17 = .ok (.if_icmp .eq 79, 3) := by decide +kernel
theorem dX4_sooner_20 : decode cX4_sooner 20 = .ok (.aload_n 0, 1) := by decide +kernel
theorem dX4_sooner_21 : decode cX4_sooner 21 = .ok (.iload 4, 2) := by decide +kernel
theorem dX4_sooner_23 : decode cX4_sooner 23 = .ok (.invokevirtual 82, 3) := by decide +kernel
theorem dX4_sooner_26 : decode cX4_sooner 26 = .ok (.ifCond .eq 70, 3) := by decide +kernel
theorem dX4_sooner_29 : decode cX4_sooner 29 = .ok (.aload_n 0, 1) := by decide +kernel
theorem dX4_sooner_30 : decode cX4_sooner 30 = .ok (.getfield 27, 3) := by decide +kernel
theorem dX4_sooner_33 : decode cX4_sooner 33 = .ok (.iload 4, 2) := by decide +kernel
theorem dX4_sooner_35 : decode cX4_sooner 35 = .ok (.iaload, 1) := by decide +kernel
theorem dX4_sooner_36 : decode cX4_sooner 36 = .ok (.iload_n 2, 1) := by decide +kernel
theorem dX4_sooner_37 : decode cX4_sooner 37 = .ok (.if_icmp .eq 22, 3) := by decide +kernel
theorem dX4_sooner_40 : decode cX4_sooner 40 = .ok (.aload_n 0, 1) := by decide +kernel
theorem dX4_sooner_41 : decode cX4_sooner 41 = .ok (.getfield 27, 3) := by decide +kernel
theorem dX4_sooner_44 : decode cX4_sooner 44 = .ok (.iload 4, 2) := by decide +kernel
theorem dX4_sooner_46 : decode cX4_sooner 46 = .ok (.iaload, 1) := by decide +kernel
theorem dX4_sooner_47 : decode cX4_sooner 47 = .ok (.iload_n 2, 1) := by decide +kernel
theorem dX4_sooner_48 : decode cX4_sooner 48 = .ok (.if_icmp .ge 7, 3) := by decide +kernel
theorem dX4_sooner_51 : decode cX4_sooner 51 = .ok (.iconst 1, 1) := by decide +kernel
theorem dX4_sooner_52 : decode cX4_sooner 52 = .ok (.goto 34, 3) := by decide +kernel
theorem dX4_sooner_55 : decode cX4_sooner 55 = .ok (.iconst 0, 1) := by decide +kernel
theorem dX4_sooner_56 : decode cX4_sooner 56 = .ok (.goto 30, 3) := by decide +kernel
theorem dX4_sooner_59 : decode cX4_sooner 59 = .ok (.aload_n 0, 1) := by decide +kernel
theorem dX4_sooner_60 : decode cX4_sooner 60 = .ok (.getfield 59, 3) := by decide +kernel
theorem dX4_sooner_63 : decode cX4_sooner 63 = .ok (.iload 4, 2) := by decide +kernel
theorem dX4_sooner_65 : decode cX4_sooner 65 = .ok (.aaload, 1) := by decide +kernel
theorem dX4_sooner_66 : decode cX4_sooner 66 = .ok (.getfield 90, 3) := by decide +kernel
theorem dX4_sooner_69 : decode cX4_sooner 69 = .ok (.aload_n 0, 1) := by decide +kernel
theorem dX4_sooner_70 : decode cX4_sooner 70 = .ok (.getfield 59, 3) := by decide +kernel
theorem dX4_sooner_73 : decode cX4_sooner 73 = .ok (.iload_n 1, 1) := by decide +kernel
theorem dX4_sooner_74 : decode cX4_sooner 74 = .ok (.aaload, 1) := by decide +kernel
theorem dX4_sooner_75 : decode cX4_sooner 75 = .ok (.getfield 90, 3) := by decide +kernel
theorem dX4_sooner_78 : decode cX4_sooner 78 = .ok (.if_icmp .ge 7, 3) := by decide +kernel
theorem dX4_sooner_81 : decode cX4_sooner 81 = .ok (.iconst 1, 1) := by decide +kernel
theorem dX4_sooner_82 : decode cX4_sooner 82 = .ok (.goto 4, 3) := by decide +kernel
theorem dX4_sooner_85 : decode cX4_sooner 85 = .ok (.iconst 0, 1) := by decide +kernel
theorem dX4_sooner_86 : decode cX4_sooner 86 = .ok (.istore 5, 2) := by decide +kernel
theorem dX4_sooner_88 : decode cX4_sooner 88 = .ok (.iload 5, 2) := by decide +kernel
theorem dX4_sooner_90 : decode cX4_sooner 90 = .ok (.ifCond .eq 6, 3) := by decide +kernel
theorem dX4_sooner_93 : decode cX4_sooner 93 = .ok (.iinc 3 1, 3) := by decide +kernel
theorem dX4_sooner_96 : decode cX4_sooner 96 = .ok (.iinc 4 1, 3) := by decide +kernel
theorem dX4_sooner_99 : decode cX4_sooner 99 = .ok (.goto (-94), 3) := by decide +kernel
theorem dX4_sooner_102 : decode cX4_sooner 102 = .ok (.iload_n 3, 1) := by decide +kernel
theorem dX4_sooner_103 : decode cX4_sooner 103 = .ok (.ireturn, 1) := by decide +kernel
theorem dX4_leastOf_0 : decode cX4_leastOf 0 = .ok (.aload_n 0, 1) := by decide +kernel
theorem dX4_leastOf_1 : decode cX4_leastOf 1 = .ok (.getfield 27, 3) := by decide +kernel
theorem dX4_leastOf_4 : decode cX4_leastOf 4 = .ok (.iload_n 1, 1) := by decide +kernel
theorem dX4_leastOf_5 : decode cX4_leastOf 5 = .ok (.iaload, 1) := by decide +kernel
theorem dX4_leastOf_6 : decode cX4_leastOf 6 = .ok (.ifCond .ne 5, 3) := by decide +kernel
theorem dX4_leastOf_9 : decode cX4_leastOf 9 = .ok (.iconst 0, 1) := by decide +kernel
theorem dX4_leastOf_10 : decode cX4_leastOf 10 = .ok (.ireturn, 1) := by decide +kernel
theorem dX4_leastOf_11 : decode cX4_leastOf 11 = .ok (.aload_n 0, 1) := by decide +kernel
theorem dX4_leastOf_12 : decode cX4_leastOf 12 = .ok (.getfield 31, 3) := by decide +kernel
theorem dX4_leastOf_15 : decode cX4_leastOf 15 = .ok (.iload_n 1, 1) := by decide +kernel
theorem dX4_leastOf_16 : decode cX4_leastOf 16 = .ok (.baload, 1) := by decide +kernel
theorem dX4_leastOf_17 : decode cX4_leastOf 17 = .ok (.ifCond .eq 12, 3) := by decide +kernel
theorem dX4_leastOf_20 : decode cX4_leastOf 20 = .ok (.aload_n 0, 1) := by decide +kernel
theorem dX4_leastOf_21 : decode cX4_leastOf 21 = .ok (.getfield 47, 3) := by decide +kernel
theorem dX4_leastOf_24 : decode cX4_leastOf 24 = .ok (.iload_n 1, 1) := by decide +kernel
theorem dX4_leastOf_25 : decode cX4_leastOf 25 = .ok (.iaload, 1) := by decide +kernel
theorem dX4_leastOf_26 : decode cX4_leastOf 26 = .ok (.goto 16, 3) := by decide +kernel
theorem dX4_leastOf_29 : decode cX4_leastOf 29 = .ok (.aload_n 0, 1) := by decide +kernel
theorem dX4_leastOf_30 : decode cX4_leastOf 30 = .ok (.getfield 47, 3) := by decide +kernel
theorem dX4_leastOf_33 : decode cX4_leastOf 33 = .ok (.iload_n 1, 1) := by decide +kernel
theorem dX4_leastOf_34 : decode cX4_leastOf 34 = .ok (.iaload, 1) := by decide +kernel
theorem dX4_leastOf_35 : decode cX4_leastOf 35 = .ok (.aload_n 0, 1) := by decide +kernel
theorem dX4_leastOf_36 : decode cX4_leastOf 36 = .ok (.getfield 24, 3) := by decide +kernel
theorem dX4_leastOf_39 : decode cX4_leastOf 39 = .ok (.invokestatic 93, 3) := by decide +kernel
theorem dX4_leastOf_42 : decode cX4_leastOf 42 = .ok (.ireturn, 1) := by decide +kernel
theorem dX4_oddsNow_0 : decode cX4_oddsNow 0 = .ok (.aload_n 0, 1) := by decide +kernel
theorem dX4_oddsNow_1 : decode cX4_oddsNow 1 = .ok (.getfield 59, 3) := by decide +kernel
theorem dX4_oddsNow_4 : decode cX4_oddsNow 4 = .ok (.iload_n 1, 1) := by decide +kernel
theorem dX4_oddsNow_5 : decode cX4_oddsNow 5 = .ok (.aaload, 1) := by decide +kernel
theorem dX4_oddsNow_6 : decode cX4_oddsNow 6 = .ok (.aload_n 0, 1) := by decide +kernel
theorem dX4_oddsNow_7 : decode cX4_oddsNow 7 = .ok (.getfield 18, 3) := by decide +kernel
theorem dX4_oddsNow_10 : decode cX4_oddsNow 10 = .ok (.aload_n 0, 1) := by decide +kernel
theorem dX4_oddsNow_11 : decode cX4_oddsNow 11 = .ok (.getfield 27, 3) := by decide +kernel
theorem dX4_oddsNow_14 : decode cX4_oddsNow 14 = .ok (.iload_n 1, 1) := by decide +kernel
theorem dX4_oddsNow_15 : decode cX4_oddsNow 15 = .ok (.iaload, 1) := by decide +kernel
theorem dX4_oddsNow_16 : decode cX4_oddsNow 16 = .ok (.aload_n 0, 1) := by decide +kernel
theorem dX4_oddsNow_17 : decode cX4_oddsNow 17 = .ok (.getfield 44, 3) := by decide +kernel
theorem dX4_oddsNow_20 : decode cX4_oddsNow 20 = .ok (.iload_n 1, 1) := by decide +kernel
theorem dX4_oddsNow_21 : decode cX4_oddsNow 21 = .ok (.iaload, 1) := by decide +kernel
theorem dX4_oddsNow_22 : decode cX4_oddsNow 22 = .ok (.aload_n 0, 1) := by decide +kernel
theorem dX4_oddsNow_23 : decode cX4_oddsNow 23 = .ok (.getfield 15, 3) := by decide +kernel
theorem dX4_oddsNow_26 : decode cX4_oddsNow 26 = .ok (.imul, 1) := by decide +kernel
theorem dX4_oddsNow_27 : decode cX4_oddsNow 27 = .ok (.invokevirtual 98, 3) := by decide +kernel
theorem dX4_oddsNow_30 : decode cX4_oddsNow 30 = .ok (.ireturn, 1) := by decide +kernel
theorem dX4_take_0 : decode cX4_take 0 = .ok (.aload_n 0, 1) := by decide +kernel
theorem dX4_take_1 : decode cX4_take 1 = .ok (.getfield 18, 3) := by decide +kernel
theorem dX4_take_4 : decode cX4_take 4 = .ok (.iconst 3, 1) := by decide +kernel
theorem dX4_take_5 : decode cX4_take 5 = .ok (.if_icmp .ge 12, 3) := by decide +kernel
theorem dX4_take_8 : decode cX4_take 8 = .ok (.aload_n 0, 1) := by decide +kernel
theorem dX4_take_9 : decode cX4_take 9 = .ok (.getfield 53, 3) := by decide +kernel
theorem dX4_take_12 : decode cX4_take 12 = .ok (.bipush 54, 2) := by decide +kernel
theorem dX4_take_14 : decode cX4_take 14 = .ok (.if_icmp .lt 4, 3) := by decide +kernel
theorem dX4_take_17 : decode cX4_take 17 = .ok (.return_, 1) := by decide +kernel
theorem dX4_take_18 : decode cX4_take 18 = .ok (.aload_n 0, 1) := by decide +kernel
theorem dX4_take_19 : decode cX4_take 19 = .ok (.getfield 27, 3) := by decide +kernel
theorem dX4_take_22 : decode cX4_take 22 = .ok (.iload_n 1, 1) := by decide +kernel
theorem dX4_take_23 : decode cX4_take 23 = .ok (.iaload, 1) := by decide +kernel
theorem dX4_take_24 : decode cX4_take 24 = .ok (.istore_n 3, 1) := by decide +kernel
theorem dX4_take_25 : decode cX4_take 25 = .ok (.aload_n 0, 1) := by decide +kernel
theorem dX4_take_26 : decode cX4_take 26 = .ok (.getfield 59, 3) := by decide +kernel
theorem dX4_take_29 : decode cX4_take 29 = .ok (.iload_n 1, 1) := by decide +kernel
theorem dX4_take_30 : decode cX4_take 30 = .ok (.aaload, 1) := by decide +kernel
theorem dX4_take_31 : decode cX4_take 31 = .ok (.getfield 66, 3) := by decide +kernel
theorem dX4_take_34 : decode cX4_take 34 = .ok (.astore 4, 2) := by decide +kernel
theorem dX4_take_36 : decode cX4_take 36 = .ok (.aload_n 0, 1) := by decide +kernel
theorem dX4_take_37 : decode cX4_take 37 = .ok (.getfield 50, 3) := by decide +kernel
theorem dX4_take_40 : decode cX4_take 40 = .ok (.aload_n 0, 1) := by decide +kernel
theorem dX4_take_41 : decode cX4_take 41 = .ok (.getfield 53, 3) := by decide +kernel
theorem dX4_take_44 : decode cX4_take 44 = .ok (.iconst 4, 1) := by decide +kernel
theorem dX4_take_45 : decode cX4_take 45 = .ok (.imul, 1) := by decide +kernel
theorem dX4_take_46 : decode cX4_take 46 = .ok (.iload_n 1, 1) := by decide +kernel
theorem dX4_take_47 : decode cX4_take 47 = .ok (.iastore, 1) := by decide +kernel
theorem dX4_take_48 : decode cX4_take 48 = .ok (.aload_n 0, 1) := by decide +kernel
theorem dX4_take_49 : decode cX4_take 49 = .ok (.getfield 50, 3) := by decide +kernel
theorem dX4_take_52 : decode cX4_take 52 = .ok (.aload_n 0, 1) := by decide +kernel
theorem dX4_take_53 : decode cX4_take 53 = .ok (.getfield 53, 3) := by decide +kernel
theorem dX4_take_56 : decode cX4_take 56 = .ok (.iconst 4, 1) := by decide +kernel
theorem dX4_take_57 : decode cX4_take 57 = .ok (.imul, 1) := by decide +kernel
theorem dX4_take_58 : decode cX4_take 58 = .ok (.iconst 1, 1) := by decide +kernel
theorem dX4_take_59 : decode cX4_take 59 = .ok (.iadd, 1) := by decide +kernel
theorem dX4_take_60 : decode cX4_take 60 = .ok (.aload_n 0, 1) := by decide +kernel
theorem dX4_take_61 : decode cX4_take 61 = .ok (.getfield 18, 3) := by decide +kernel
theorem dX4_take_64 : decode cX4_take 64 = .ok (.iastore, 1) := by decide +kernel
theorem dX4_take_65 : decode cX4_take 65 = .ok (.aload_n 0, 1) := by decide +kernel
theorem dX4_take_66 : decode cX4_take 66 = .ok (.getfield 50, 3) := by decide +kernel
theorem dX4_take_69 : decode cX4_take 69 = .ok (.aload_n 0, 1) := by decide +kernel
theorem dX4_take_70 : decode cX4_take 70 = .ok (.getfield 53, 3) := by decide +kernel
theorem dX4_take_73 : decode cX4_take 73 = .ok (.iconst 4, 1) := by decide +kernel
theorem dX4_take_74 : decode cX4_take 74 = .ok (.imul, 1) := by decide +kernel
theorem dX4_take_75 : decode cX4_take 75 = .ok (.iconst 2, 1) := by decide +kernel
theorem dX4_take_76 : decode cX4_take 76 = .ok (.iadd, 1) := by decide +kernel
theorem dX4_take_77 : decode cX4_take 77 = .ok (.iload_n 3, 1) := by decide +kernel
theorem dX4_take_78 : decode cX4_take 78 = .ok (.iastore, 1) := by decide +kernel
theorem dX4_take_79 : decode cX4_take 79 = .ok (.aload_n 0, 1) := by decide +kernel
theorem dX4_take_80 : decode cX4_take 80 = .ok (.getfield 50, 3) := by decide +kernel
theorem dX4_take_83 : decode cX4_take 83 = .ok (.aload_n 0, 1) := by decide +kernel
theorem dX4_take_84 : decode cX4_take 84 = .ok (.getfield 53, 3) := by decide +kernel
theorem dX4_take_87 : decode cX4_take 87 = .ok (.iconst 4, 1) := by decide +kernel
theorem dX4_take_88 : decode cX4_take 88 = .ok (.imul, 1) := by decide +kernel
theorem dX4_take_89 : decode cX4_take 89 = .ok (.iconst 3, 1) := by decide +kernel
theorem dX4_take_90 : decode cX4_take 90 = .ok (.iadd, 1) := by decide +kernel
theorem dX4_take_91 : decode cX4_take 91 = .ok (.iload_n 2, 1) := by decide +kernel
theorem dX4_take_92 : decode cX4_take 92 = .ok (.ifCond .eq 7, 3) := by decide +kernel
theorem dX4_take_95 : decode cX4_take 95 = .ok (.iconst 1, 1) := by decide +kernel
theorem dX4_take_96 : decode cX4_take 96 = .ok (.goto 4, 3) := by decide +kernel
theorem dX4_take_99 : decode cX4_take 99 = .ok (.iconst 0, 1) := by decide +kernel
theorem dX4_take_100 : decode cX4_take 100 = .ok (.iastore, 1) := by decide +kernel
theorem dX4_take_101 : decode cX4_take 101 = .ok (.aload_n 0, 1) := by decide +kernel
theorem dX4_take_102 : decode cX4_take 102 = .ok (.dup, 1) := by decide +kernel
theorem dX4_take_103 : decode cX4_take 103 = .ok (.getfield 53, 3) := by decide +kernel
theorem dX4_take_106 : decode cX4_take 106 = .ok (.iconst 1, 1) := by decide +kernel
theorem dX4_take_107 : decode cX4_take 107 = .ok (.iadd, 1) := by decide +kernel
theorem dX4_take_108 : decode cX4_take 108 = .ok (.putfield 53, 3) := by decide +kernel
theorem dX4_take_111 : decode cX4_take 111 = .ok (.aload_n 0, 1) := by decide +kernel
theorem dX4_take_112 : decode cX4_take 112 = .ok (.getfield 31, 3) := by decide +kernel
theorem dX4_take_115 : decode cX4_take 115 = .ok (.iload_n 1, 1) := by decide +kernel
theorem dX4_take_116 : decode cX4_take 116 = .ok (.iconst 1, 1) := by decide +kernel
theorem dX4_take_117 : decode cX4_take 117 = .ok (.bastore, 1) := by decide +kernel
theorem dX4_take_118 : decode cX4_take 118 = .ok (.aload_n 0, 1) := by decide +kernel
theorem dX4_take_119 : decode cX4_take 119 = .ok (.aload_n 0, 1) := by decide +kernel
theorem dX4_take_120 : decode cX4_take 120 = .ok (.getfield 24, 3) := by decide +kernel
theorem dX4_take_123 : decode cX4_take 123 = .ok (.iload_n 3, 1) := by decide +kernel
theorem dX4_take_124 : decode cX4_take 124 = .ok (.invokestatic 93, 3) := by decide +kernel
theorem dX4_take_127 : decode cX4_take 127 = .ok (.putfield 24, 3) := by decide +kernel
theorem dX4_take_130 : decode cX4_take 130 = .ok (.iload_n 3, 1) := by decide +kernel
theorem dX4_take_131 : decode cX4_take 131 = .ok (.istore 5, 2) := by decide +kernel
theorem dX4_take_133 : decode cX4_take 133 = .ok (.iload_n 2, 1) := by decide +kernel
theorem dX4_take_134 : decode cX4_take 134 = .ok (.ifCond .eq 71, 3) := by decide +kernel
theorem dX4_take_137 : decode cX4_take 137 = .ok (.aload_n 0, 1) := by decide +kernel
theorem dX4_take_138 : decode cX4_take 138 = .ok (.dup, 1) := by decide +kernel
theorem dX4_take_139 : decode cX4_take 139 = .ok (.getfield 56, 3) := by decide +kernel
theorem dX4_take_142 : decode cX4_take 142 = .ok (.iconst 1, 1) := by decide +kernel
theorem dX4_take_143 : decode cX4_take 143 = .ok (.iadd, 1) := by decide +kernel
theorem dX4_take_144 : decode cX4_take 144 = .ok (.putfield 56, 3) := by decide +kernel
theorem dX4_take_147 : decode cX4_take 147 = .ok (.aload_n 0, 1) := by decide +kernel
theorem dX4_take_148 : decode cX4_take 148 = .ok (.getfield 41, 3) := by decide +kernel
theorem dX4_take_151 : decode cX4_take 151 = .ok (.iload_n 1, 1) := by decide +kernel
theorem dX4_take_152 : decode cX4_take 152 = .ok (.iconst 3, 1) := by decide +kernel
theorem dX4_take_153 : decode cX4_take 153 = .ok (.imul, 1) := by decide +kernel
theorem dX4_take_154 : decode cX4_take 154 = .ok (.aload_n 0, 1) := by decide +kernel
theorem dX4_take_155 : decode cX4_take 155 = .ok (.getfield 18, 3) := by decide +kernel
theorem dX4_take_158 : decode cX4_take 158 = .ok (.iadd, 1) := by decide +kernel
theorem dX4_take_159 : decode cX4_take 159 = .ok (.aload_n 0, 1) := by decide +kernel
theorem dX4_take_160 : decode cX4_take 160 = .ok (.getfield 41, 3) := by decide +kernel
theorem dX4_take_163 : decode cX4_take 163 = .ok (.iload_n 1, 1) := by decide +kernel
theorem dX4_take_164 : decode cX4_take 164 = .ok (.iconst 3, 1) := by decide +kernel
theorem dX4_take_165 : decode cX4_take 165 = .ok (.imul, 1) := by decide +kernel
theorem dX4_take_166 : decode cX4_take 166 = .ok (.aload_n 0, 1) := by decide +kernel
theorem dX4_take_167 : decode cX4_take 167 = .ok (.getfield 18, 3) := by decide +kernel
theorem dX4_take_170 : decode cX4_take 170 = .ok (.iadd, 1) := by decide +kernel
theorem dX4_take_171 : decode cX4_take 171 = .ok (.iaload, 1) := by decide +kernel
theorem dX4_take_172 : decode cX4_take 172 = .ok (.iload_n 3, 1) := by decide +kernel
theorem dX4_take_173 : decode cX4_take 173 = .ok (.invokestatic 93, 3) := by decide +kernel
theorem dX4_take_176 : decode cX4_take 176 = .ok (.iastore, 1) := by decide +kernel
theorem dX4_take_177 : decode cX4_take 177 = .ok (.aload_n 0, 1) := by decide +kernel
theorem dX4_take_178 : decode cX4_take 178 = .ok (.getfield 47, 3) := by decide +kernel
theorem dX4_take_181 : decode cX4_take 181 = .ok (.iload_n 1, 1) := by decide +kernel
theorem dX4_take_182 : decode cX4_take 182 = .ok (.iload_n 3, 1) := by decide +kernel
theorem dX4_take_183 : decode cX4_take 183 = .ok (.iconst 1, 1) := by decide +kernel
theorem dX4_take_184 : decode cX4_take 184 = .ok (.iadd, 1) := by decide +kernel
theorem dX4_take_185 : decode cX4_take 185 = .ok (.iastore, 1) := by decide +kernel
theorem dX4_take_186 : decode cX4_take 186 = .ok (.iload 5, 2) := by decide +kernel
theorem dX4_take_188 : decode cX4_take 188 = .ok (.aload 4, 2) := by decide +kernel
theorem dX4_take_190 : decode cX4_take 190 = .ok (.aload_n 0, 1) := by decide +kernel
theorem dX4_take_191 : decode cX4_take 191 = .ok (.getfield 18, 3) := by decide +kernel
theorem dX4_take_194 : decode cX4_take 194 = .ok (.iconst 3, 1) := by decide +kernel
theorem dX4_take_195 : decode cX4_take 195 = .ok (.imul, 1) := by decide +kernel
theorem dX4_take_196 : decode cX4_take 196 = .ok (.iconst 1, 1) := by decide +kernel
theorem dX4_take_197 : decode cX4_take 197 = .ok (.iadd, 1) := by decide +kernel
theorem dX4_take_198 : decode cX4_take 198 = .ok (.iaload, 1) := by decide +kernel
theorem dX4_take_199 : decode cX4_take 199 = .ok (.iadd, 1) := by decide +kernel
theorem dX4_take_200 : decode cX4_take 200 = .ok (.istore 5, 2) := by decide +kernel
theorem dX4_take_202 : decode cX4_take 202 = .ok (.goto 36, 3) := by decide +kernel
theorem dX4_take_205 : decode cX4_take 205 = .ok (.aload_n 0, 1) := by decide +kernel
theorem dX4_take_206 : decode cX4_take 206 = .ok (.getfield 44, 3) := by decide +kernel
theorem dX4_take_209 : decode cX4_take 209 = .ok (.iload_n 1, 1) := by decide +kernel
theorem dX4_take_210 : decode cX4_take 210 = .ok (.dup2, 1) := by decide +kernel
theorem dX4_take_211 : decode cX4_take 211 = .ok (.iaload, 1) := by decide +kernel
theorem dX4_take_212 : decode cX4_take 212 = .ok (.iconst 1, 1) := by decide +kernel
theorem dX4_take_213 : decode cX4_take 213 = .ok (.iadd, 1) := by decide +kernel
theorem dX4_take_214 : decode cX4_take 214 = .ok (.iastore, 1) := by decide +kernel
theorem dX4_take_215 : decode cX4_take 215 = .ok (.aload_n 0, 1) := by decide +kernel
theorem dX4_take_216 : decode cX4_take 216 = .ok (.getfield 47, 3) := by decide +kernel
theorem dX4_take_219 : decode cX4_take 219 = .ok (.iload_n 1, 1) := by decide +kernel
theorem dX4_take_220 : decode cX4_take 220 = .ok (.iload_n 3, 1) := by decide +kernel
theorem dX4_take_221 : decode cX4_take 221 = .ok (.iastore, 1) := by decide +kernel
theorem dX4_take_222 : decode cX4_take 222 = .ok (.iload 5, 2) := by decide +kernel
theorem dX4_take_224 : decode cX4_take 224 = .ok (.aload 4, 2) := by decide +kernel
theorem dX4_take_226 : decode cX4_take 226 = .ok (.aload_n 0, 1) := by decide +kernel
theorem dX4_take_227 : decode cX4_take 227 = .ok (.getfield 18, 3) := by decide +kernel
theorem dX4_take_230 : decode cX4_take 230 = .ok (.iconst 3, 1) := by decide +kernel
theorem dX4_take_231 : decode cX4_take 231 = .ok (.imul, 1) := by decide +kernel
theorem dX4_take_232 : decode cX4_take 232 = .ok (.iconst 2, 1) := by decide +kernel
theorem dX4_take_233 : decode cX4_take 233 = .ok (.iadd, 1) := by decide +kernel
theorem dX4_take_234 : decode cX4_take 234 = .ok (.iaload, 1) := by decide +kernel
theorem dX4_take_235 : decode cX4_take 235 = .ok (.iadd, 1) := by decide +kernel
theorem dX4_take_236 : decode cX4_take 236 = .ok (.istore 5, 2) := by decide +kernel
theorem dX4_take_238 : decode cX4_take 238 = .ok (.aload_n 0, 1) := by decide +kernel
theorem dX4_take_239 : decode cX4_take 239 = .ok (.getfield 27, 3) := by decide +kernel
theorem dX4_take_242 : decode cX4_take 242 = .ok (.iload_n 1, 1) := by decide +kernel
theorem dX4_take_243 : decode cX4_take 243 = .ok (.aload_n 0, 1) := by decide +kernel
theorem dX4_take_244 : decode cX4_take 244 = .ok (.getfield 21, 3) := by decide +kernel
theorem dX4_take_247 : decode cX4_take 247 = .ok (.iconst 2, 1) := by decide +kernel
theorem dX4_take_248 : decode cX4_take 248 = .ok (.if_icmp .eq 10, 3) := by decide +kernel
theorem dX4_take_251 : decode cX4_take 251 = .ok (.iload 5, 2) := by decide +kernel
theorem dX4_take_253 : decode cX4_take 253 = .ok (.bipush 40, 2) := by decide +kernel
theorem dX4_take_255 : decode cX4_take 255 = .ok (.if_icmp .le 7, 3) := by decide +kernel
theorem dX4_take_258 : decode cX4_take 258 = .ok (.iconst 0, 1) := by decide +kernel
theorem dX4_take_259 : decode cX4_take 259 = .ok (.goto 5, 3) := by decide +kernel
theorem dX4_take_262 : decode cX4_take 262 = .ok (.iload 5, 2) := by decide +kernel
theorem dX4_take_264 : decode cX4_take 264 = .ok (.iastore, 1) := by decide +kernel
theorem dX4_take_265 : decode cX4_take 265 = .ok (.return_, 1) := by decide +kernel
theorem dX4_drawOn_0 : decode cX4_drawOn 0 = .ok (.iload_n 1, 1) := by decide +kernel
theorem dX4_drawOn_1 : decode cX4_drawOn 1 = .ok (.istore_n 2, 1) := by decide +kernel
theorem dX4_drawOn_2 : decode cX4_drawOn 2 = .ok (.iconst 0, 1) := by decide +kernel
theorem dX4_drawOn_3 : decode cX4_drawOn 3 = .ok (.istore_n 3, 1) := by decide +kernel
theorem dX4_drawOn_4 : decode cX4_drawOn 4 = .ok (.iload_n 3, 1) := by decide +kernel
theorem dX4_drawOn_5 : decode cX4_drawOn 5 = .ok (.bipush 54, 2) := by decide +kernel
theorem dX4_drawOn_7 : decode cX4_drawOn 7 = .ok (.if_icmp .ge 64, 3) := by decide +kernel
theorem dX4_drawOn_10 : decode cX4_drawOn 10 = .ok (.aload_n 0, 1) := by decide +kernel
theorem dX4_drawOn_11 : decode cX4_drawOn 11 = .ok (.invokevirtual 75, 3) := by decide +kernel
theorem dX4_drawOn_14 : decode cX4_drawOn 14 = .ok (.istore 4, 2) := by decide +kernel
theorem dX4_drawOn_16 : decode cX4_drawOn 16 = .ok (.iload 4, 2) := by decide +kernel
theorem dX4_drawOn_18 : decode cX4_drawOn 18 = .ok (.ifCond .ge 6, 3) := by decide +kernel
theorem dX4_drawOn_21 : decode cX4_drawOn 21 = .ok (.goto 50, 3) := by decide +kernel
theorem dX4_drawOn_24 : decode cX4_drawOn 24 = .ok (.iload_n 2, 1) := by decide +kernel
theorem dX4_drawOn_25 : decode cX4_drawOn 25 = .ok (.ldc 102, 2) := by decide +kernel
theorem dX4_drawOn_27 : decode cX4_drawOn 27 = .ok (.imul, 1) := by decide +kernel
theorem dX4_drawOn_28 : decode cX4_drawOn 28 = .ok (.sipush 12345, 3) := by decide +kernel
theorem dX4_drawOn_31 : decode cX4_drawOn 31 = .ok (.iadd, 1) := by decide +kernel
theorem dX4_drawOn_32 : decode cX4_drawOn 32 = .ok (.istore_n 2, 1) := by decide +kernel
theorem dX4_drawOn_33 : decode cX4_drawOn 33 = .ok (.aload_n 0, 1) := by decide +kernel
theorem dX4_drawOn_34 : decode cX4_drawOn 34 = .ok (.iload 4, 2) := by decide +kernel
theorem dX4_drawOn_36 : decode cX4_drawOn 36 = .ok (.iload_n 2, 1) := by decide +kernel
theorem dX4_drawOn_37 : decode cX4_drawOn 37 = .ok (.bipush 16, 2) := by decide +kernel
theorem dX4_drawOn_39 : decode cX4_drawOn 39 = .ok (.iushr, 1) := by decide +kernel
theorem dX4_drawOn_40 : decode cX4_drawOn 40 = .ok (.sipush 1000, 3) := by decide +kernel
theorem dX4_drawOn_43 : decode cX4_drawOn 43 = .ok (.irem, 1) := by decide +kernel
theorem dX4_drawOn_44 : decode cX4_drawOn 44 = .ok (.aload_n 0, 1) := by decide +kernel
theorem dX4_drawOn_45 : decode cX4_drawOn 45 = .ok (.iload 4, 2) := by decide +kernel
theorem dX4_drawOn_47 : decode cX4_drawOn 47 = .ok (.invokevirtual 103, 3) := by decide +kernel
theorem dX4_drawOn_50 : decode cX4_drawOn 50 = .ok (.if_icmp .ge 7, 3) := by decide +kernel
theorem dX4_drawOn_53 : decode cX4_drawOn 53 = .ok (.iconst 1, 1) := by decide +kernel
theorem dX4_drawOn_54 : decode cX4_drawOn 54 = .ok (.goto 4, 3) := by decide +kernel
theorem dX4_drawOn_57 : decode cX4_drawOn 57 = .ok (.iconst 0, 1) := by decide +kernel
theorem dX4_drawOn_58 : decode cX4_drawOn 58 = .ok (.invokevirtual 107, 3) := by decide +kernel
theorem dX4_drawOn_61 : decode cX4_drawOn 61 = .ok (.aload_n 0, 1) := by decide +kernel
theorem dX4_drawOn_62 : decode cX4_drawOn 62 = .ok (.invokevirtual 111, 3) := by decide +kernel
theorem dX4_drawOn_65 : decode cX4_drawOn 65 = .ok (.iinc 3 1, 3) := by decide +kernel
theorem dX4_drawOn_68 : decode cX4_drawOn 68 = .ok (.goto (-64), 3) := by decide +kernel
theorem dX4_drawOn_71 : decode cX4_drawOn 71 = .ok (.iload_n 2, 1) := by decide +kernel
theorem dX4_drawOn_72 : decode cX4_drawOn 72 = .ok (.ireturn, 1) := by decide +kernel
theorem dX4_sumOf_0 : decode cX4_sumOf 0 = .ok (.aload_n 0, 1) := by decide +kernel
theorem dX4_sumOf_1 : decode cX4_sumOf 1 = .ok (.getfield 38, 3) := by decide +kernel
theorem dX4_sumOf_4 : decode cX4_sumOf 4 = .ok (.iload_n 1, 1) := by decide +kernel
theorem dX4_sumOf_5 : decode cX4_sumOf 5 = .ok (.baload, 1) := by decide +kernel
theorem dX4_sumOf_6 : decode cX4_sumOf 6 = .ok (.ifCond .eq 5, 3) := by decide +kernel
theorem dX4_sumOf_9 : decode cX4_sumOf 9 = .ok (.iconst 0, 1) := by decide +kernel
theorem dX4_sumOf_10 : decode cX4_sumOf 10 = .ok (.ireturn, 1) := by decide +kernel
theorem dX4_sumOf_11 : decode cX4_sumOf 11 = .ok (.aload_n 0, 1) := by decide +kernel
theorem dX4_sumOf_12 : decode cX4_sumOf 12 = .ok (.getfield 41, 3) := by decide +kernel
theorem dX4_sumOf_15 : decode cX4_sumOf 15 = .ok (.iload_n 1, 1) := by decide +kernel
theorem dX4_sumOf_16 : decode cX4_sumOf 16 = .ok (.iconst 3, 1) := by decide +kernel
theorem dX4_sumOf_17 : decode cX4_sumOf 17 = .ok (.imul, 1) := by decide +kernel
theorem dX4_sumOf_18 : decode cX4_sumOf 18 = .ok (.iaload, 1) := by decide +kernel
theorem dX4_sumOf_19 : decode cX4_sumOf 19 = .ok (.aload_n 0, 1) := by decide +kernel
theorem dX4_sumOf_20 : decode cX4_sumOf 20 = .ok (.getfield 41, 3) := by decide +kernel
theorem dX4_sumOf_23 : decode cX4_sumOf 23 = .ok (.iload_n 1, 1) := by decide +kernel
theorem dX4_sumOf_24 : decode cX4_sumOf 24 = .ok (.iconst 3, 1) := by decide +kernel
theorem dX4_sumOf_25 : decode cX4_sumOf 25 = .ok (.imul, 1) := by decide +kernel
theorem dX4_sumOf_26 : decode cX4_sumOf 26 = .ok (.iconst 1, 1) := by decide +kernel
theorem dX4_sumOf_27 : decode cX4_sumOf 27 = .ok (.iadd, 1) := by decide +kernel
theorem dX4_sumOf_28 : decode cX4_sumOf 28 = .ok (.iaload, 1) := by decide +kernel
theorem dX4_sumOf_29 : decode cX4_sumOf 29 = .ok (.iadd, 1) := by decide +kernel
theorem dX4_sumOf_30 : decode cX4_sumOf 30 = .ok (.aload_n 0, 1) := by decide +kernel
theorem dX4_sumOf_31 : decode cX4_sumOf 31 = .ok (.getfield 41, 3) := by decide +kernel
theorem dX4_sumOf_34 : decode cX4_sumOf 34 = .ok (.iload_n 1, 1) := by decide +kernel
theorem dX4_sumOf_35 : decode cX4_sumOf 35 = .ok (.iconst 3, 1) := by decide +kernel
theorem dX4_sumOf_36 : decode cX4_sumOf 36 = .ok (.imul, 1) := by decide +kernel
theorem dX4_sumOf_37 : decode cX4_sumOf 37 = .ok (.iconst 2, 1) := by decide +kernel
theorem dX4_sumOf_38 : decode cX4_sumOf 38 = .ok (.iadd, 1) := by decide +kernel
theorem dX4_sumOf_39 : decode cX4_sumOf 39 = .ok (.iaload, 1) := by decide +kernel
theorem dX4_sumOf_40 : decode cX4_sumOf 40 = .ok (.iadd, 1) := by decide +kernel
theorem dX4_sumOf_41 : decode cX4_sumOf 41 = .ok (.ireturn, 1) := by decide +kernel
theorem dX4_isAhead_0 : decode cX4_isAhead 0 = .ok (.aload_n 0, 1) := by decide +kernel
theorem dX4_isAhead_1 : decode cX4_isAhead 1 = .ok (.getfield 38, 3) := by decide +kernel
theorem dX4_isAhead_4 : decode cX4_isAhead 4 = .ok (.iload_n 1, 1) := by decide +kernel
theorem dX4_isAhead_5 : decode cX4_isAhead 5 = .ok (.baload, 1) := by decide +kernel
theorem dX4_isAhead_6 : decode cX4_isAhead 6 = .ok (.aload_n 0, 1) := by decide +kernel
theorem dX4_isAhead_7 : decode cX4_isAhead 7 = .ok (.getfield 38, 3) := by decide +kernel
theorem dX4_isAhead_10 : decode cX4_isAhead 10 = .ok (.iload_n 2, 1) := by decide +kernel
theorem dX4_isAhead_11 : decode cX4_isAhead 11 = .ok (.baload, 1) := by decide +kernel
theorem dX4_isAhead_12 : decode cX4_isAhead 12 = .ok (.if_icmp .eq 10, 3) := by decide +kernel
theorem dX4_isAhead_15 : decode cX4_isAhead 15 = .ok (.aload_n 0, 1) := by decide +kernel
theorem dX4_isAhead_16 : decode cX4_isAhead 16 = .ok (.getfield 38, 3) := by decide +kernel
theorem dX4_isAhead_19 : decode cX4_isAhead 19 = .ok (.iload_n 2, 1) := by decide +kernel
theorem dX4_isAhead_20 : decode cX4_isAhead 20 = .ok (.baload, 1) := by decide +kernel
theorem dX4_isAhead_21 : decode cX4_isAhead 21 = .ok (.ireturn, 1) := by decide +kernel
theorem dX4_isAhead_22 : decode cX4_isAhead 22 = .ok (.aload_n 0, 1) := by decide +kernel
theorem dX4_isAhead_23 : decode cX4_isAhead 23 = .ok (.iload_n 1, 1) := by decide +kernel
theorem dX4_isAhead_24 : decode cX4_isAhead 24 = .ok (.invokevirtual 114, 3) := by decide +kernel
theorem dX4_isAhead_27 : decode cX4_isAhead 27 = .ok (.istore_n 3, 1) := by decide +kernel
theorem dX4_isAhead_28 : decode cX4_isAhead 28 = .ok (.aload_n 0, 1) := by decide +kernel
theorem dX4_isAhead_29 : decode cX4_isAhead 29 = .ok (.iload_n 2, 1) := by decide +kernel
theorem dX4_isAhead_30 : decode cX4_isAhead 30 = .ok (.invokevirtual 114, 3) := by decide +kernel
theorem dX4_isAhead_33 : decode cX4_isAhead 33 = .ok (.istore 4, 2) := by decide +kernel
theorem dX4_isAhead_35 : decode cX4_isAhead 35 = .ok (.iload_n 3, 1) := by decide +kernel
theorem dX4_isAhead_36 : decode cX4_isAhead 36 = .ok (.iload 4, 2) := by decide +kernel
theorem dX4_isAhead_38 : decode cX4_isAhead 38 = .ok (.if_icmp .eq 17, 3) := by decide +kernel
theorem dX4_isAhead_41 : decode cX4_isAhead 41 = .ok (.iload_n 3, 1) := by decide +kernel
theorem dX4_isAhead_42 : decode cX4_isAhead 42 = .ok (.iload 4, 2) := by decide +kernel
theorem dX4_isAhead_44 : decode cX4_isAhead 44 = .ok (.if_icmp .le 7, 3) := by decide +kernel
theorem dX4_isAhead_47 : decode cX4_isAhead 47 = .ok (.iconst 1, 1) := by decide +kernel
theorem dX4_isAhead_48 : decode cX4_isAhead 48 = .ok (.goto 22, 3) := by decide +kernel
theorem dX4_isAhead_51 : decode cX4_isAhead 51 = .ok (.iconst 0, 1) := by decide +kernel
theorem dX4_isAhead_52 : decode cX4_isAhead 52 = .ok (.goto 18, 3) := by decide +kernel
theorem dX4_isAhead_55 : decode cX4_isAhead 55 = .ok (.aload_n 0, 1) := by decide +kernel
theorem dX4_isAhead_56 : decode cX4_isAhead 56 = .ok (.getfield 59, 3) := by decide +kernel
theorem dX4_isAhead_59 : decode cX4_isAhead 59 = .ok (.iload_n 1, 1) := by decide +kernel
theorem dX4_isAhead_60 : decode cX4_isAhead 60 = .ok (.aaload, 1) := by decide +kernel
theorem dX4_isAhead_61 : decode cX4_isAhead 61 = .ok (.aload_n 0, 1) := by decide +kernel
theorem dX4_isAhead_62 : decode cX4_isAhead 62 = .ok (.getfield 59, 3) := by decide +kernel
theorem dX4_isAhead_65 : decode cX4_isAhead 65 = .ok (.iload_n 2, 1) := by decide +kernel
theorem dX4_isAhead_66 : decode cX4_isAhead 66 = .ok (.aaload, 1) := by decide +kernel
theorem dX4_isAhead_67 : decode cX4_isAhead 67 = .ok (.invokevirtual 117, 3) := by decide +kernel
theorem dX4_isAhead_70 : decode cX4_isAhead 70 = .ok (.ireturn, 1) := by decide +kernel
theorem dX4_wouldLead_0 : decode cX4_wouldLead 0 = .ok (.aload_n 0, 1) := by decide +kernel
theorem dX4_wouldLead_1 : decode cX4_wouldLead 1 = .ok (.getfield 18, 3) := by decide +kernel
theorem dX4_wouldLead_4 : decode cX4_wouldLead 4 = .ok (.iconst 3, 1) := by decide +kernel
theorem dX4_wouldLead_5 : decode cX4_wouldLead 5 = .ok (.if_icmp .lt 5, 3) := by decide +kernel
theorem dX4_wouldLead_8 : decode cX4_wouldLead 8 = .ok (.iconst 0, 1) := by decide +kernel
theorem dX4_wouldLead_9 : decode cX4_wouldLead 9 = .ok (.ireturn, 1) := by decide +kernel
theorem dX4_wouldLead_10 : decode cX4_wouldLead 10 = .ok (.aload_n 0, 1) := by decide +kernel
theorem dX4_wouldLead_11 : decode cX4_wouldLead 11 = .ok (.getfield 41, 3) := by decide +kernel
theorem dX4_wouldLead_14 : decode cX4_wouldLead 14 = .ok (.iload_n 1, 1) := by decide +kernel
