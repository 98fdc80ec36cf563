theorem dX8_count_74 : decode cX8_count 74 = .ok (.getfield 134, 3) := by decide +kernel
theorem dX8_count_77 : decode cX8_count 77 = .ok (.ireturn, 1) := by decide +kernel
theorem dX8_count_78 : decode cX8_count 78 = .ok (.iconst 0, 1) := by decide +kernel
theorem dX8_count_79 : decode cX8_count 79 = .ok (.istore_n 2, 1) := by decide +kernel
theorem dX8_count_80 : decode cX8_count 80 = .ok (.iconst 0, 1) := by decide +kernel
theorem dX8_count_81 : decode cX8_count 81 = .ok (.istore_n 3, 1) := by decide +kernel
theorem dX8_count_82 : decode cX8_count 82 = .ok (.iload_n 3, 1) := by decide +kernel
theorem dX8_count_83 : decode cX8_count 83 = .ok (.sipush 768, 3) := by decide +kernel
theorem dX8_count_86 : decode cX8_count 86 = .ok (.if_icmp .ge 27, 3) := by decide +kernel
theorem dX8_count_89 : decode cX8_count 89 = .ok (.iload_n 2, 1) := by decide +kernel
theorem dX8_count_90 : decode cX8_count 90 = .ok (.aload_n 0, 1) := by decide +kernel
theorem dX8_count_91 : decode cX8_count 91 = .ok (.getfield 40, 3) := by decide +kernel
theorem dX8_count_94 : decode cX8_count 94 = .ok (.iload_n 3, 1) := by decide +kernel
theorem dX8_count_95 : decode cX8_count 95 = .ok (.iaload, 1) := by decide +kernel
theorem dX8_count_96 : decode cX8_count 96 = .ok (.iconst 2, 1) := by decide +kernel
theorem dX8_count_97 : decode cX8_count 97 = .ok (.if_icmp .ne 7, 3) := by decide +kernel
theorem dX8_count_100 : decode cX8_count 100 = .ok (.iconst 1, 1) := by decide +kernel
theorem dX8_count_101 : decode cX8_count 101 = .ok (.goto 4, 3) := by decide +kernel
theorem dX8_count_104 : decode cX8_count 104 = .ok (.iconst 0, 1) := by decide +kernel
theorem dX8_count_105 : decode cX8_count 105 = .ok (.iadd, 1) := by decide +kernel
theorem dX8_count_106 : decode cX8_count 106 = .ok (.istore_n 2, 1) := by decide +kernel
theorem dX8_count_107 : decode cX8_count 107 = .ok (.iinc 3 1, 3) := by decide +kernel
theorem dX8_count_110 : decode cX8_count 110 = .ok (.goto (-28), 3) := by decide +kernel
theorem dX8_count_113 : decode cX8_count 113 = .ok (.iload_n 2, 1) := by decide +kernel
theorem dX8_count_114 : decode cX8_count 114 = .ok (.ireturn, 1) := by decide +kernel
theorem dX8_count_115 : decode cX8_count 115 = .ok (.aload_n 0, 1) := by decide +kernel
theorem dX8_count_116 : decode cX8_count 116 = .ok (.getfield 184, 3) := by decide +kernel
theorem dX8_count_119 : decode cX8_count 119 = .ok (.ireturn, 1) := by decide +kernel
theorem dX8_count_120 : decode cX8_count 120 = .ok (.bipush (-102), 2) := by decide +kernel
theorem dX8_count_122 : decode cX8_count 122 = .ok (.ireturn, 1) := by decide +kernel
theorem dX8_digest_0 : decode cX8_digest 0 = .ok (.ldc2_w 196, 3) := by decide +kernel
theorem dX8_digest_3 : decode cX8_digest 3 = .ok (.lstore_n 1, 1) := by decide +kernel
theorem dX8_digest_4 : decode cX8_digest 4 = .ok (.iconst 0, 1) := by decide +kernel
theorem dX8_digest_5 : decode cX8_digest 5 = .ok (.istore_n 3, 1) := by decide +kernel
theorem dX8_digest_6 : decode cX8_digest 6 = .ok (.iload_n 3, 1) := by decide +kernel
theorem dX8_digest_7 : decode cX8_digest 7 = .ok (.aload_n 0, 1) := by decide +kernel
theorem dX8_digest_8 : decode cX8_digest 8 = .ok (.getfield 64, 3) := by decide +kernel
theorem dX8_digest_11 : decode cX8_digest 11 = .ok (.if_icmp .ge 105, 3) := by decide +kernel
theorem dX8_digest_14 : decode cX8_digest 14 = .ok (.ldc2_w 198, 3) := by decide +kernel
theorem dX8_digest_17 : decode cX8_digest 17 = .ok (.lload_n 1, 1) := by decide +kernel
theorem dX8_digest_18 : decode cX8_digest 18 = .ok (.lmul, 1) := by decide +kernel
theorem dX8_digest_19 : decode cX8_digest 19 = .ok (.aload_n 0, 1) := by decide +kernel
theorem dX8_digest_20 : decode cX8_digest 20 = .ok (.getfield 13, 3) := by decide +kernel
theorem dX8_digest_23 : decode cX8_digest 23 = .ok (.iload_n 3, 1) := by decide +kernel
theorem dX8_digest_24 : decode cX8_digest 24 = .ok (.iaload, 1) := by decide +kernel
theorem dX8_digest_25 : decode cX8_digest 25 = .ok (.i2l, 1) := by decide +kernel
theorem dX8_digest_26 : decode cX8_digest 26 = .ok (.ladd, 1) := by decide +kernel
theorem dX8_digest_27 : decode cX8_digest 27 = .ok (.lstore_n 1, 1) := by decide +kernel
theorem dX8_digest_28 : decode cX8_digest 28 = .ok (.iconst 0, 1) := by decide +kernel
theorem dX8_digest_29 : decode cX8_digest 29 = .ok (.istore 4, 2) := by decide +kernel
theorem dX8_digest_31 : decode cX8_digest 31 = .ok (.iload 4, 2) := by decide +kernel
theorem dX8_digest_33 : decode cX8_digest 33 = .ok (.aload_n 0, 1) := by decide +kernel
theorem dX8_digest_34 : decode cX8_digest 34 = .ok (.getfield 13, 3) := by decide +kernel
theorem dX8_digest_37 : decode cX8_digest 37 = .ok (.iload_n 3, 1) := by decide +kernel
theorem dX8_digest_38 : decode cX8_digest 38 = .ok (.iaload, 1) := by decide +kernel
theorem dX8_digest_39 : decode cX8_digest 39 = .ok (.if_icmp .ge 71, 3) := by decide +kernel
theorem dX8_digest_42 : decode cX8_digest 42 = .ok (.ldc2_w 198, 3) := by decide +kernel
theorem dX8_digest_45 : decode cX8_digest 45 = .ok (.lload_n 1, 1) := by decide +kernel
theorem dX8_digest_46 : decode cX8_digest 46 = .ok (.lmul, 1) := by decide +kernel
theorem dX8_digest_47 : decode cX8_digest 47 = .ok (.aload_n 0, 1) := by decide +kernel
theorem dX8_digest_48 : decode cX8_digest 48 = .ok (.getfield 16, 3) := by decide +kernel
theorem dX8_digest_51 : decode cX8_digest 51 = .ok (.bipush 6, 2) := by decide +kernel
theorem dX8_digest_53 : decode cX8_digest 53 = .ok (.iload_n 3, 1) := by decide +kernel
theorem dX8_digest_54 : decode cX8_digest 54 = .ok (.imul, 1) := by decide +kernel
theorem dX8_digest_55 : decode cX8_digest 55 = .ok (.iload 4, 2) := by decide +kernel
theorem dX8_digest_57 : decode cX8_digest 57 = .ok (.iadd, 1) := by decide +kernel
theorem dX8_digest_58 : decode cX8_digest 58 = .ok (.iaload, 1) := by decide +kernel
theorem dX8_digest_59 : decode cX8_digest 59 = .ok (.i2l, 1) := by decide +kernel
theorem dX8_digest_60 : decode cX8_digest 60 = .ok (.ladd, 1) := by decide +kernel
theorem dX8_digest_61 : decode cX8_digest 61 = .ok (.lstore_n 1, 1) := by decide +kernel
theorem dX8_digest_62 : decode cX8_digest 62 = .ok (.iconst 0, 1) := by decide +kernel
theorem dX8_digest_63 : decode cX8_digest 63 = .ok (.istore 5, 2) := by decide +kernel
theorem dX8_digest_65 : decode cX8_digest 65 = .ok (.iload 5, 2) := by decide +kernel
theorem dX8_digest_67 : decode cX8_digest 67 = .ok (.bipush 9, 2) := by decide +kernel
theorem dX8_digest_69 : decode cX8_digest 69 = .ok (.if_icmp .ge 35, 3) := by decide +kernel
theorem dX8_digest_72 : decode cX8_digest 72 = .ok (.ldc2_w 198, 3) := by decide +kernel
theorem dX8_digest_75 : decode cX8_digest 75 = .ok (.lload_n 1, 1) := by decide +kernel
theorem dX8_digest_76 : decode cX8_digest 76 = .ok (.lmul, 1) := by decide +kernel
theorem dX8_digest_77 : decode cX8_digest 77 = .ok (.aload_n 0, 1) := by decide +kernel
theorem dX8_digest_78 : decode cX8_digest 78 = .ok (.getfield 19, 3) := by decide +kernel
theorem dX8_digest_81 : decode cX8_digest 81 = .ok (.bipush 9, 2) := by decide +kernel
theorem dX8_digest_83 : decode cX8_digest 83 = .ok (.bipush 6, 2) := by decide +kernel
theorem dX8_digest_85 : decode cX8_digest 85 = .ok (.iload_n 3, 1) := by decide +kernel
theorem dX8_digest_86 : decode cX8_digest 86 = .ok (.imul, 1) := by decide +kernel
theorem dX8_digest_87 : decode cX8_digest 87 = .ok (.iload 4, 2) := by decide +kernel
theorem dX8_digest_89 : decode cX8_digest 89 = .ok (.iadd, 1) := by decide +kernel
theorem dX8_digest_90 : decode cX8_digest 90 = .ok (.imul, 1) := by decide +kernel
theorem dX8_digest_91 : decode cX8_digest 91 = .ok (.iload 5, 2) := by decide +kernel
theorem dX8_digest_93 : decode cX8_digest 93 = .ok (.iadd, 1) := by decide +kernel
theorem dX8_digest_94 : decode cX8_digest 94 = .ok (.iaload, 1) := by decide +kernel
theorem dX8_digest_95 : decode cX8_digest 95 = .ok (.i2l, 1) := by decide +kernel
theorem dX8_digest_96 : decode cX8_digest 96 = .ok (.ladd, 1) := by decide +kernel
theorem dX8_digest_97 : decode cX8_digest 97 = .ok (.lstore_n 1, 1) := by decide +kernel
theorem dX8_digest_98 : decode cX8_digest 98 = .ok (.iinc 5 1, 3) := by decide +kernel
theorem dX8_digest_101 : decode cX8_digest 101 = .ok (.goto (-36), 3) := by decide +kernel
theorem dX8_digest_104 : decode cX8_digest 104 = .ok (.iinc 4 1, 3) := by decide +kernel
theorem dX8_digest_107 : decode cX8_digest 107 = .ok (.goto (-76), 3) := by decide +kernel
theorem dX8_digest_110 : decode cX8_digest 110 = .ok (.iinc 3 1, 3) := by decide +kernel
theorem dX8_digest_113 : decode cX8_digest 113 = .ok (.goto (-107), 3) := by decide +kernel
theorem dX8_digest_116 : decode cX8_digest 116 = .ok (.iconst 0, 1) := by decide +kernel
theorem dX8_digest_117 : decode cX8_digest 117 = .ok (.istore_n 3, 1) := by decide +kernel
theorem dX8_digest_118 : decode cX8_digest 118 = .ok (.iload_n 3, 1) := by decide +kernel
theorem dX8_digest_119 : decode cX8_digest 119 = .ok (.aload_n 0, 1) := by decide +kernel
theorem dX8_digest_120 : decode cX8_digest 120 = .ok (.getfield 88, 3) := by decide +kernel
theorem dX8_digest_123 : decode cX8_digest 123 = .ok (.if_icmp .ge 81, 3) := by decide +kernel
theorem dX8_digest_126 : decode cX8_digest 126 = .ok (.iconst 0, 1) := by decide +kernel
theorem dX8_digest_127 : decode cX8_digest 127 = .ok (.istore 4, 2) := by decide +kernel
theorem dX8_digest_129 : decode cX8_digest 129 = .ok (.iload 4, 2) := by decide +kernel
theorem dX8_digest_131 : decode cX8_digest 131 = .ok (.bipush 9, 2) := by decide +kernel
theorem dX8_digest_133 : decode cX8_digest 133 = .ok (.if_icmp .ge 29, 3) := by decide +kernel
theorem dX8_digest_136 : decode cX8_digest 136 = .ok (.ldc2_w 198, 3) := by decide +kernel
theorem dX8_digest_139 : decode cX8_digest 139 = .ok (.lload_n 1, 1) := by decide +kernel
theorem dX8_digest_140 : decode cX8_digest 140 = .ok (.lmul, 1) := by decide +kernel
theorem dX8_digest_141 : decode cX8_digest 141 = .ok (.aload_n 0, 1) := by decide +kernel
theorem dX8_digest_142 : decode cX8_digest 142 = .ok (.getfield 22, 3) := by decide +kernel
theorem dX8_digest_145 : decode cX8_digest 145 = .ok (.bipush 9, 2) := by decide +kernel
theorem dX8_digest_147 : decode cX8_digest 147 = .ok (.iload_n 3, 1) := by decide +kernel
theorem dX8_digest_148 : decode cX8_digest 148 = .ok (.imul, 1) := by decide +kernel
theorem dX8_digest_149 : decode cX8_digest 149 = .ok (.iload 4, 2) := by decide +kernel
theorem dX8_digest_151 : decode cX8_digest 151 = .ok (.iadd, 1) := by decide +kernel
theorem dX8_digest_152 : decode cX8_digest 152 = .ok (.iaload, 1) := by decide +kernel
theorem dX8_digest_153 : decode cX8_digest 153 = .ok (.i2l, 1) := by decide +kernel
theorem dX8_digest_154 : decode cX8_digest 154 = .ok (.ladd, 1) := by decide +kernel
theorem dX8_digest_155 : decode cX8_digest 155 = .ok (.lstore_n 1, 1) := by decide +kernel
theorem dX8_digest_156 : decode cX8_digest 156 = .ok (.iinc 4 1, 3) := by decide +kernel
theorem dX8_digest_159 : decode cX8_digest 159 = .ok (.goto (-30), 3) := by decide +kernel
theorem dX8_digest_162 : decode cX8_digest 162 = .ok (.iconst 0, 1) := by decide +kernel
theorem dX8_digest_163 : decode cX8_digest 163 = .ok (.istore 4, 2) := by decide +kernel
theorem dX8_digest_165 : decode cX8_digest 165 = .ok (.iload 4, 2) := by decide +kernel
theorem dX8_digest_167 : decode cX8_digest 167 = .ok (.bipush 9, 2) := by decide +kernel
theorem dX8_digest_169 : decode cX8_digest 169 = .ok (.if_icmp .ge 29, 3) := by decide +kernel
theorem dX8_digest_172 : decode cX8_digest 172 = .ok (.ldc2_w 198, 3) := by decide +kernel
theorem dX8_digest_175 : decode cX8_digest 175 = .ok (.lload_n 1, 1) := by decide +kernel
theorem dX8_digest_176 : decode cX8_digest 176 = .ok (.lmul, 1) := by decide +kernel
theorem dX8_digest_177 : decode cX8_digest 177 = .ok (.aload_n 0, 1) := by decide +kernel
theorem dX8_digest_178 : decode cX8_digest 178 = .ok (.getfield 25, 3) := by decide +kernel
theorem dX8_digest_181 : decode cX8_digest 181 = .ok (.bipush 9, 2) := by decide +kernel
theorem dX8_digest_183 : decode cX8_digest 183 = .ok (.iload_n 3, 1) := by decide +kernel
theorem dX8_digest_184 : decode cX8_digest 184 = .ok (.imul, 1) := by decide +kernel
theorem dX8_digest_185 : decode cX8_digest 185 = .ok (.iload 4, 2) := by decide +kernel
theorem dX8_digest_187 : decode cX8_digest 187 = .ok (.iadd, 1) := by decide +kernel
theorem dX8_digest_188 : decode cX8_digest 188 = .ok (.iaload, 1) := by decide +kernel
theorem dX8_digest_189 : decode cX8_digest 189 = .ok (.i2l, 1) := by decide +kernel
theorem dX8_digest_190 : decode cX8_digest 190 = .ok (.ladd, 1) := by decide +kernel
theorem dX8_digest_191 : decode cX8_digest 191 = .ok (.lstore_n 1, 1) := by decide +kernel
theorem dX8_digest_192 : decode cX8_digest 192 = .ok (.iinc 4 1, 3) := by decide +kernel
theorem dX8_digest_195 : decode cX8_digest 195 = .ok (.goto (-30), 3) := by decide +kernel
theorem dX8_digest_198 : decode cX8_digest 198 = .ok (.iinc 3 1, 3) := by decide +kernel
theorem dX8_digest_201 : decode cX8_digest 201 = .ok (.goto (-83), 3) := by decide +kernel
theorem dX8_digest_204 : decode cX8_digest 204 = .ok (.iconst 0, 1) := by decide +kernel
theorem dX8_digest_205 : decode cX8_digest 205 = .ok (.istore_n 3, 1) := by decide +kernel
theorem dX8_digest_206 : decode cX8_digest 206 = .ok (.iload_n 3, 1) := by decide +kernel
theorem dX8_digest_207 : decode cX8_digest 207 = .ok (.sipush 192, 3) := by decide +kernel
theorem dX8_digest_210 : decode cX8_digest 210 = .ok (.aload_n 0, 1) := by decide +kernel
theorem dX8_digest_211 : decode cX8_digest 211 = .ok (.getfield 151, 3) := by decide +kernel
theorem dX8_digest_214 : decode cX8_digest 214 = .ok (.imul, 1) := by decide +kernel
theorem dX8_digest_215 : decode cX8_digest 215 = .ok (.if_icmp .ge 23, 3) := by decide +kernel
theorem dX8_digest_218 : decode cX8_digest 218 = .ok (.ldc2_w 198, 3) := by decide +kernel
theorem dX8_digest_221 : decode cX8_digest 221 = .ok (.lload_n 1, 1) := by decide +kernel
theorem dX8_digest_222 : decode cX8_digest 222 = .ok (.lmul, 1) := by decide +kernel
theorem dX8_digest_223 : decode cX8_digest 223 = .ok (.aload_n 0, 1) := by decide +kernel
theorem dX8_digest_224 : decode cX8_digest 224 = .ok (.getfield 40, 3) := by decide +kernel
theorem dX8_digest_227 : decode cX8_digest 227 = .ok (.iload_n 3, 1) := by decide +kernel
theorem dX8_digest_228 : decode cX8_digest 228 = .ok (.iaload, 1) := by decide +kernel
theorem dX8_digest_229 : decode cX8_digest 229 = .ok (.i2l, 1) := by decide +kernel
theorem dX8_digest_230 : decode cX8_digest 230 = .ok (.ladd, 1) := by decide +kernel
theorem dX8_digest_231 : decode cX8_digest 231 = .ok (.lstore_n 1, 1) := by decide +kernel
theorem dX8_digest_232 : decode cX8_digest 232 = .ok (.iinc 3 1, 3) := by decide +kernel
theorem dX8_digest_235 : decode cX8_digest 235 = .ok (.goto (-29), 3) := by decide +kernel
theorem dX8_digest_238 : decode cX8_digest 238 = .ok (.iconst 0, 1) := by decide +kernel
theorem dX8_digest_239 : decode cX8_digest 239 = .ok (.istore_n 3, 1) := by decide +kernel
theorem dX8_digest_240 : decode cX8_digest 240 = .ok (.iload_n 3, 1) := by decide +kernel
theorem dX8_digest_241 : decode cX8_digest 241 = .ok (.aload_n 0, 1) := by decide +kernel
theorem dX8_digest_242 : decode cX8_digest 242 = .ok (.getfield 178, 3) := by decide +kernel
theorem dX8_digest_245 : decode cX8_digest 245 = .ok (.if_icmp .ge 37, 3) := by decide +kernel
theorem dX8_digest_248 : decode cX8_digest 248 = .ok (.ldc2_w 198, 3) := by decide +kernel
theorem dX8_digest_251 : decode cX8_digest 251 = .ok (.lload_n 1, 1) := by decide +kernel
theorem dX8_digest_252 : decode cX8_digest 252 = .ok (.lmul, 1) := by decide +kernel
theorem dX8_digest_253 : decode cX8_digest 253 = .ok (.aload_n 0, 1) := by decide +kernel
theorem dX8_digest_254 : decode cX8_digest 254 = .ok (.getfield 43, 3) := by decide +kernel
theorem dX8_digest_257 : decode cX8_digest 257 = .ok (.iload_n 3, 1) := by decide +kernel
theorem dX8_digest_258 : decode cX8_digest 258 = .ok (.iaload, 1) := by decide +kernel
theorem dX8_digest_259 : decode cX8_digest 259 = .ok (.i2l, 1) := by decide +kernel
theorem dX8_digest_260 : decode cX8_digest 260 = .ok (.ladd, 1) := by decide +kernel
theorem dX8_digest_261 : decode cX8_digest 261 = .ok (.lstore_n 1, 1) := by decide +kernel
theorem dX8_digest_262 : decode cX8_digest 262 = .ok (.ldc2_w 198, 3) := by decide +kernel
theorem dX8_digest_265 : decode cX8_digest 265 = .ok (.lload_n 1, 1) := by decide +kernel
theorem dX8_digest_266 : decode cX8_digest 266 = .ok (.lmul, 1) := by decide +kernel
theorem dX8_digest_267 : decode cX8_digest 267 = .ok (.aload_n 0, 1) := by decide +kernel
theorem dX8_digest_268 : decode cX8_digest 268 = .ok (.getfield 46, 3) := by decide +kernel
theorem dX8_digest_271 : decode cX8_digest 271 = .ok (.iload_n 3, 1) := by decide +kernel
theorem dX8_digest_272 : decode cX8_digest 272 = .ok (.iaload, 1) := by decide +kernel
theorem dX8_digest_273 : decode cX8_digest 273 = .ok (.i2l, 1) := by decide +kernel
theorem dX8_digest_274 : decode cX8_digest 274 = .ok (.ladd, 1) := by decide +kernel
theorem dX8_digest_275 : decode cX8_digest 275 = .ok (.lstore_n 1, 1) := by decide +kernel
theorem dX8_digest_276 : decode cX8_digest 276 = .ok (.iinc 3 1, 3) := by decide +kernel
theorem dX8_digest_279 : decode cX8_digest 279 = .ok (.goto (-39), 3) := by decide +kernel
theorem dX8_digest_282 : decode cX8_digest 282 = .ok (.iconst 0, 1) := by decide +kernel
theorem dX8_digest_283 : decode cX8_digest 283 = .ok (.istore_n 3, 1) := by decide +kernel
theorem dX8_digest_284 : decode cX8_digest 284 = .ok (.iload_n 3, 1) := by decide +kernel
theorem dX8_digest_285 : decode cX8_digest 285 = .ok (.iconst 5, 1) := by decide +kernel
theorem dX8_digest_286 : decode cX8_digest 286 = .ok (.aload_n 0, 1) := by decide +kernel
theorem dX8_digest_287 : decode cX8_digest 287 = .ok (.getfield 187, 3) := by decide +kernel
theorem dX8_digest_290 : decode cX8_digest 290 = .ok (.imul, 1) := by decide +kernel
theorem dX8_digest_291 : decode cX8_digest 291 = .ok (.if_icmp .ge 23, 3) := by decide +kernel
theorem dX8_digest_294 : decode cX8_digest 294 = .ok (.ldc2_w 198, 3) := by decide +kernel
theorem dX8_digest_297 : decode cX8_digest 297 = .ok (.lload_n 1, 1) := by decide +kernel
theorem dX8_digest_298 : decode cX8_digest 298 = .ok (.lmul, 1) := by decide +kernel
theorem dX8_digest_299 : decode cX8_digest 299 = .ok (.aload_n 0, 1) := by decide +kernel
theorem dX8_digest_300 : decode cX8_digest 300 = .ok (.getfield 49, 3) := by decide +kernel
theorem dX8_digest_303 : decode cX8_digest 303 = .ok (.iload_n 3, 1) := by decide +kernel
theorem dX8_digest_304 : decode cX8_digest 304 = .ok (.iaload, 1) := by decide +kernel
theorem dX8_digest_305 : decode cX8_digest 305 = .ok (.i2l, 1) := by decide +kernel
theorem dX8_digest_306 : decode cX8_digest 306 = .ok (.ladd, 1) := by decide +kernel
theorem dX8_digest_307 : decode cX8_digest 307 = .ok (.lstore_n 1, 1) := by decide +kernel
theorem dX8_digest_308 : decode cX8_digest 308 = .ok (.iinc 3 1, 3) := by decide +kernel
theorem dX8_digest_311 : decode cX8_digest 311 = .ok (.goto (-27), 3) := by decide +kernel
theorem dX8_digest_314 : decode cX8_digest 314 = .ok (.iconst 0, 1) := by decide +kernel
theorem dX8_digest_315 : decode cX8_digest 315 = .ok (.istore_n 3, 1) := by decide +kernel
theorem dX8_digest_316 : decode cX8_digest 316 = .ok (.iload_n 3, 1) := by decide +kernel
theorem dX8_digest_317 : decode cX8_digest 317 = .ok (.aload_n 0, 1) := by decide +kernel
theorem dX8_digest_318 : decode cX8_digest 318 = .ok (.getfield 134, 3) := by decide +kernel
theorem dX8_digest_321 : decode cX8_digest 321 = .ok (.if_icmp .ge 23, 3) := by decide +kernel
theorem dX8_digest_324 : decode cX8_digest 324 = .ok (.ldc2_w 198, 3) := by decide +kernel
theorem dX8_digest_327 : decode cX8_digest 327 = .ok (.lload_n 1, 1) := by decide +kernel
theorem dX8_digest_328 : decode cX8_digest 328 = .ok (.lmul, 1) := by decide +kernel
theorem dX8_digest_329 : decode cX8_digest 329 = .ok (.aload_n 0, 1) := by decide +kernel
theorem dX8_digest_330 : decode cX8_digest 330 = .ok (.getfield 34, 3) := by decide +kernel
theorem dX8_digest_333 : decode cX8_digest 333 = .ok (.iload_n 3, 1) := by decide +kernel
theorem dX8_digest_334 : decode cX8_digest 334 = .ok (.iaload, 1) := by decide +kernel
theorem dX8_digest_335 : decode cX8_digest 335 = .ok (.i2l, 1) := by decide +kernel
theorem dX8_digest_336 : decode cX8_digest 336 = .ok (.ladd, 1) := by decide +kernel
theorem dX8_digest_337 : decode cX8_digest 337 = .ok (.lstore_n 1, 1) := by decide +kernel
theorem dX8_digest_338 : decode cX8_digest 338 = .ok (.iinc 3 1, 3) := by decide +kernel
theorem dX8_digest_341 : decode cX8_digest 341 = .ok (.goto (-25), 3) := by decide +kernel
theorem dX8_digest_344 : decode cX8_digest 344 = .ok (.lload_n 1, 1) := by decide +kernel
theorem dX8_digest_345 : decode cX8_digest 345 = .ok (.lreturn, 1) := by decide +kernel
theorem dJ6_bitCount_0f7a4_0 : decode cJ6_bitCount_0f7a4 0 = .ok (.iload_n 0, 1) := by decide +kernel
theorem dJ6_bitCount_0f7a4_1 : decode cJ6_bitCount_0f7a4 1 = .ok (.iload_n 0, 1) := by decide +kernel
theorem dJ6_bitCount_0f7a4_2 : decode cJ6_bitCount_0f7a4 2 = .ok (.iconst 1, 1) := by decide +kernel
theorem dJ6_bitCount_0f7a4_3 : decode cJ6_bitCount_0f7a4 3 = .ok (.iushr, 1) := by decide +kernel
theorem dJ6_bitCount_0f7a4_4 : decode cJ6_bitCount_0f7a4 4 = .ok (.ldc_w 265, 3) := by decide +kernel
theorem dJ6_bitCount_0f7a4_7 : decode cJ6_bitCount_0f7a4 7 = .ok (.iand, 1) := by decide +kernel
theorem dJ6_bitCount_0f7a4_8 : decode cJ6_bitCount_0f7a4 8 = .ok (.isub, 1) := by decide +kernel
theorem dJ6_bitCount_0f7a4_9 : decode cJ6_bitCount_0f7a4 9 = .ok (.istore_n 0, 1) := by decide +kernel
theorem dJ6_bitCount_0f7a4_10 : decode cJ6_bitCount_0f7a4 10 = .ok (.iload_n 0, 1) := by decide +kernel
theorem dJ6_bitCount_0f7a4_11 : decode cJ6_bitCount_0f7a4 11 = .ok (.ldc_w 266, 3) := by decide +kernel
theorem dJ6_bitCount_0f7a4_14 : decode cJ6_bitCount_0f7a4 14 = .ok (.iand, 1) := by decide +kernel
theorem dJ6_bitCount_0f7a4_15 : decode cJ6_bitCount_0f7a4 15 = .ok (.iload_n 0, 1) := by decide +kernel
theorem dJ6_bitCount_0f7a4_16 : decode cJ6_bitCount_0f7a4 16 = .ok (.iconst 2, 1) := by decide +kernel
theorem dJ6_bitCount_0f7a4_17 : decode cJ6_bitCount_0f7a4 17 = .ok (.iushr, 1) := by decide +kernel
theorem dJ6_bitCount_0f7a4_18 : decode cJ6_bitCount_0f7a4 18 = .ok (.ldc_w 266, 3) := by decide +kernel
theorem dJ6_bitCount_0f7a4_21 : decode cJ6_bitCount_0f7a4 21 = .ok (.iand, 1) := by decide +kernel
theorem dJ6_bitCount_0f7a4_22 : decode cJ6_bitCount_0f7a4 22 = .ok (.iadd, 1) := by decide +kernel
theorem dJ6_bitCount_0f7a4_23 : decode cJ6_bitCount_0f7a4 23 = .ok (.istore_n 0, 1) := by decide +kernel
theorem dJ6_bitCount_0f7a4_24 : decode cJ6_bitCount_0f7a4 24 = .ok (.iload_n 0, 1) := by decide +kernel
theorem dJ6_bitCount_0f7a4_25 : decode cJ6_bitCount_0f7a4 25 = .ok (.iload_n 0, 1) := by decide +kernel
theorem dJ6_bitCount_0f7a4_26 : decode cJ6_bitCount_0f7a4 26 = .ok (.iconst 4, 1) := by decide +kernel
theorem dJ6_bitCount_0f7a4_27 : decode cJ6_bitCount_0f7a4 27 = .ok (.iushr, 1) := by decide +kernel
theorem dJ6_bitCount_0f7a4_28 : decode cJ6_bitCount_0f7a4 28 = .ok (.iadd, 1) := by decide +kernel
theorem dJ6_bitCount_0f7a4_29 : decode cJ6_bitCount_0f7a4 29 = .ok (.ldc_w 267, 3) := by decide +kernel
theorem dJ6_bitCount_0f7a4_32 : decode cJ6_bitCount_0f7a4 32 = .ok (.iand, 1) := by decide +kernel
theorem dJ6_bitCount_0f7a4_33 : decode cJ6_bitCount_0f7a4 33 = .ok (.istore_n 0, 1) := by decide +kernel
theorem dJ6_bitCount_0f7a4_34 : decode cJ6_bitCount_0f7a4 34 = .ok (.iload_n 0, 1) := by decide +kernel
theorem dJ6_bitCount_0f7a4_35 : decode cJ6_bitCount_0f7a4 35 = .ok (.iload_n 0, 1) := by decide +kernel
theorem dJ6_bitCount_0f7a4_36 : decode cJ6_bitCount_0f7a4 36 = .ok (.bipush 8, 2) := by decide +kernel
theorem dJ6_bitCount_0f7a4_38 : decode cJ6_bitCount_0f7a4 38 = .ok (.iushr, 1) := by decide +kernel
theorem dJ6_bitCount_0f7a4_39 : decode cJ6_bitCount_0f7a4 39 = .ok (.iadd, 1) := by decide +kernel
theorem dJ6_bitCount_0f7a4_40 : decode cJ6_bitCount_0f7a4 40 = .ok (.istore_n 0, 1) := by decide +kernel
theorem dJ6_bitCount_0f7a4_41 : decode cJ6_bitCount_0f7a4 41 = .ok (.iload_n 0, 1) := by decide +kernel
theorem dJ6_bitCount_0f7a4_42 : decode cJ6_bitCount_0f7a4 42 = .ok (.iload_n 0, 1) := by decide +kernel
theorem dJ6_bitCount_0f7a4_43 : decode cJ6_bitCount_0f7a4 43 = .ok (.bipush 16, 2) := by decide +kernel
theorem dJ6_bitCount_0f7a4_45 : decode cJ6_bitCount_0f7a4 45 = .ok (.iushr, 1) := by decide +kernel
theorem dJ6_bitCount_0f7a4_46 : decode cJ6_bitCount_0f7a4 46 = .ok (.iadd, 1) := by decide +kernel
theorem dJ6_bitCount_0f7a4_47 : decode cJ6_bitCount_0f7a4 47 = .ok (.istore_n 0, 1) := by decide +kernel
theorem dJ6_bitCount_0f7a4_48 : decode cJ6_bitCount_0f7a4 48 = .ok (.iload_n 0, 1) := by decide +kernel
theorem dJ6_bitCount_0f7a4_49 : decode cJ6_bitCount_0f7a4 49 = .ok (.bipush 63, 2) := by decide +kernel
theorem dJ6_bitCount_0f7a4_51 : decode cJ6_bitCount_0f7a4 51 = .ok (.iand, 1) := by decide +kernel
theorem dJ6_bitCount_0f7a4_52 : decode cJ6_bitCount_0f7a4 52 = .ok (.ireturn, 1) := by decide +kernel
theorem dJ9_floorDiv_7cf53_0 : decode cJ9_floorDiv_7cf53 0 = .ok (.iload_n 0, 1) := by decide +kernel
theorem dJ9_floorDiv_7cf53_1 : decode cJ9_floorDiv_7cf53 1 = .ok (.iload_n 1, 1) := by decide +kernel
theorem dJ9_floorDiv_7cf53_2 : decode cJ9_floorDiv_7cf53 2 = .ok (.idiv, 1) := by decide +kernel
theorem dJ9_floorDiv_7cf53_3 : decode cJ9_floorDiv_7cf53 3 = .ok (.istore_n 2, 1) := by decide +kernel
theorem dJ9_floorDiv_7cf53_4 : decode cJ9_floorDiv_7cf53 4 = .ok (.iload_n 0, 1) := by decide +kernel
theorem dJ9_floorDiv_7cf53_5 : decode cJ9_floorDiv_7cf53 5 = .ok (.iload_n 1, 1) := by decide +kernel
theorem dJ9_floorDiv_7cf53_6 : decode cJ9_floorDiv_7cf53 6 = .ok (.ixor, 1) := by decide +kernel
theorem dJ9_floorDiv_7cf53_7 : decode cJ9_floorDiv_7cf53 7 = .ok (.ifCond .ge 14, 3) := by decide +kernel
theorem dJ9_floorDiv_7cf53_10 : decode cJ9_floorDiv_7cf53 10 = .ok (.iload_n 2, 1) := by decide +kernel
theorem dJ9_floorDiv_7cf53_11 : decode cJ9_floorDiv_7cf53 11 = .ok (.iload_n 1, 1) := by decide +kernel
theorem dJ9_floorDiv_7cf53_12 : decode cJ9_floorDiv_7cf53 12 = .ok (.imul, 1) := by decide +kernel
theorem dJ9_floorDiv_7cf53_13 : decode cJ9_floorDiv_7cf53 13 = .ok (.iload_n 0, 1) := by decide +kernel
theorem dJ9_floorDiv_7cf53_14 : decode cJ9_floorDiv_7cf53 14 = .ok (.if_icmp .eq 7, 3) := by decide +kernel
theorem dJ9_floorDiv_7cf53_17 : decode cJ9_floorDiv_7cf53 17 = .ok (.iload_n 2, 1) := by decide +kernel
theorem dJ9_floorDiv_7cf53_18 : decode cJ9_floorDiv_7cf53 18 = .ok (.iconst 1, 1) := by decide +kernel
theorem dJ9_floorDiv_7cf53_19 : decode cJ9_floorDiv_7cf53 19 = .ok (.isub, 1) := by decide +kernel
theorem dJ9_floorDiv_7cf53_20 : decode cJ9_floorDiv_7cf53 20 = .ok (.ireturn, 1) := by decide +kernel
theorem dJ9_floorDiv_7cf53_21 : decode cJ9_floorDiv_7cf53 21 = .ok (.iload_n 2, 1) := by decide +kernel
theorem dJ9_floorDiv_7cf53_22 : decode cJ9_floorDiv_7cf53 22 = .ok (.ireturn, 1) := by decide +kernel
theorem dJ9_abs_0f7a4_0 : decode cJ9_abs_0f7a4 0 = .ok (.iload_n 0, 1) := by decide +kernel
theorem dJ9_abs_0f7a4_1 : decode cJ9_abs_0f7a4 1 = .ok (.ifCond .ge 8, 3) := by decide +kernel
theorem dJ9_abs_0f7a4_4 : decode cJ9_abs_0f7a4 4 = .ok (.iload_n 0, 1) := by decide +kernel
theorem dJ9_abs_0f7a4_5 : decode cJ9_abs_0f7a4 5 = .ok (.ineg, 1) := by decide +kernel
theorem dJ9_abs_0f7a4_6 : decode cJ9_abs_0f7a4 6 = .ok (.goto 4, 3) := by decide +kernel
theorem dJ9_abs_0f7a4_9 : decode cJ9_abs_0f7a4 9 = .ok (.iload_n 0, 1) := by decide +kernel
theorem dJ9_abs_0f7a4_10 : decode cJ9_abs_0f7a4 10 = .ok (.ireturn, 1) := by decide +kernel
theorem dJ9_max_7cf53_0 : decode cJ9_max_7cf53 0 = .ok (.iload_n 0, 1) := by decide +kernel
theorem dJ9_max_7cf53_1 : decode cJ9_max_7cf53 1 = .ok (.iload_n 1, 1) := by decide +kernel
theorem dJ9_max_7cf53_2 : decode cJ9_max_7cf53 2 = .ok (.if_icmp .lt 7, 3) := by decide +kernel
theorem dJ9_max_7cf53_5 : decode cJ9_max_7cf53 5 = .ok (.iload_n 0, 1) := by decide +kernel
theorem dJ9_max_7cf53_6 : decode cJ9_max_7cf53 6 = .ok (.goto 4, 3) := by decide +kernel
theorem dJ9_max_7cf53_9 : decode cJ9_max_7cf53 9 = .ok (.iload_n 1, 1) := by decide +kernel
theorem dJ9_max_7cf53_10 : decode cJ9_max_7cf53 10 = .ok (.ireturn, 1) := by decide +kernel
theorem dJ9_min_7cf53_0 : decode cJ9_min_7cf53 0 = .ok (.iload_n 0, 1) := by decide +kernel
theorem dJ9_min_7cf53_1 : decode cJ9_min_7cf53 1 = .ok (.iload_n 1, 1) := by decide +kernel
theorem dJ9_min_7cf53_2 : decode cJ9_min_7cf53 2 = .ok (.if_icmp .gt 7, 3) := by decide +kernel
theorem dJ9_min_7cf53_5 : decode cJ9_min_7cf53 5 = .ok (.iload_n 0, 1) := by decide +kernel
theorem dJ9_min_7cf53_6 : decode cJ9_min_7cf53 6 = .ok (.goto 4, 3) := by decide +kernel
theorem dJ9_min_7cf53_9 : decode cJ9_min_7cf53 9 = .ok (.iload_n 1, 1) := by decide +kernel
theorem dJ9_min_7cf53_10 : decode cJ9_min_7cf53 10 = .ok (.ireturn, 1) := by decide +kernel
