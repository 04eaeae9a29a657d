theorem dL_changes_13 : decode cL_changes 13 = .ok (.invokestatic 50, 3) := by decide +kernel
theorem dL_changes_16 : decode cL_changes 16 = .ok (.istore 4, 2) := by decide +kernel
theorem dL_changes_18 : decode cL_changes 18 = .ok (.iload_n 2, 1) := by decide +kernel
theorem dL_changes_19 : decode cL_changes 19 = .ok (.iconst 5, 1) := by decide +kernel
theorem dL_changes_20 : decode cL_changes 20 = .ok (.invokestatic 50, 3) := by decide +kernel
theorem dL_changes_23 : decode cL_changes 23 = .ok (.tableswitch 264 0 3 #[29, 138, 191, 230], 29) := by decide +kernel
theorem dL_changes_52 : decode cL_changes 52 = .ok (.aload_n 1, 1) := by decide +kernel
theorem dL_changes_53 : decode cL_changes 53 = .ok (.getfield 53, 3) := by decide +kernel
theorem dL_changes_56 : decode cL_changes 56 = .ok (.iload_n 3, 1) := by decide +kernel
theorem dL_changes_57 : decode cL_changes 57 = .ok (.iaload, 1) := by decide +kernel
theorem dL_changes_58 : decode cL_changes 58 = .ok (.istore 5, 2) := by decide +kernel
theorem dL_changes_60 : decode cL_changes 60 = .ok (.iconst 0, 1) := by decide +kernel
theorem dL_changes_61 : decode cL_changes 61 = .ok (.istore 6, 2) := by decide +kernel
theorem dL_changes_63 : decode cL_changes 63 = .ok (.iload 6, 2) := by decide +kernel
theorem dL_changes_65 : decode cL_changes 65 = .ok (.iconst 4, 1) := by decide +kernel
theorem dL_changes_66 : decode cL_changes 66 = .ok (.if_icmp .ge 36, 3) := by decide +kernel
theorem dL_changes_69 : decode cL_changes 69 = .ok (.iload 5, 2) := by decide +kernel
theorem dL_changes_71 : decode cL_changes 71 = .ok (.iload 6, 2) := by decide +kernel
theorem dL_changes_73 : decode cL_changes 73 = .ok (.iload 4, 2) := by decide +kernel
theorem dL_changes_75 : decode cL_changes 75 = .ok (.if_icmp .ne 7, 3) := by decide +kernel
theorem dL_changes_78 : decode cL_changes 78 = .ok (.iconst 0, 1) := by decide +kernel
theorem dL_changes_79 : decode cL_changes 79 = .ok (.goto 14, 3) := by decide +kernel
theorem dL_changes_82 : decode cL_changes 82 = .ok (.aload_n 1, 1) := by decide +kernel
theorem dL_changes_83 : decode cL_changes 83 = .ok (.getfield 182, 3) := by decide +kernel
theorem dL_changes_86 : decode cL_changes 86 = .ok (.iconst 4, 1) := by decide +kernel
theorem dL_changes_87 : decode cL_changes 87 = .ok (.iload_n 3, 1) := by decide +kernel
theorem dL_changes_88 : decode cL_changes 88 = .ok (.imul, 1) := by decide +kernel
theorem dL_changes_89 : decode cL_changes 89 = .ok (.iload 6, 2) := by decide +kernel
theorem dL_changes_91 : decode cL_changes 91 = .ok (.iadd, 1) := by decide +kernel
theorem dL_changes_92 : decode cL_changes 92 = .ok (.iaload, 1) := by decide +kernel
theorem dL_changes_93 : decode cL_changes 93 = .ok (.isub, 1) := by decide +kernel
theorem dL_changes_94 : decode cL_changes 94 = .ok (.istore 5, 2) := by decide +kernel
theorem dL_changes_96 : decode cL_changes 96 = .ok (.iinc 6 1, 3) := by decide +kernel
theorem dL_changes_99 : decode cL_changes 99 = .ok (.goto (-36), 3) := by decide +kernel
theorem dL_changes_102 : decode cL_changes 102 = .ok (.iload_n 2, 1) := by decide +kernel
theorem dL_changes_103 : decode cL_changes 103 = .ok (.bipush 8, 2) := by decide +kernel
theorem dL_changes_105 : decode cL_changes 105 = .ok (.ishr, 1) := by decide +kernel
theorem dL_changes_106 : decode cL_changes 106 = .ok (.iload 5, 2) := by decide +kernel
theorem dL_changes_108 : decode cL_changes 108 = .ok (.iconst 1, 1) := by decide +kernel
theorem dL_changes_109 : decode cL_changes 109 = .ok (.iadd, 1) := by decide +kernel
theorem dL_changes_110 : decode cL_changes 110 = .ok (.invokestatic 50, 3) := by decide +kernel
theorem dL_changes_113 : decode cL_changes 113 = .ok (.istore 6, 2) := by decide +kernel
theorem dL_changes_115 : decode cL_changes 115 = .ok (.aload_n 1, 1) := by decide +kernel
theorem dL_changes_116 : decode cL_changes 116 = .ok (.getfield 182, 3) := by decide +kernel
theorem dL_changes_119 : decode cL_changes 119 = .ok (.iconst 4, 1) := by decide +kernel
theorem dL_changes_120 : decode cL_changes 120 = .ok (.iload_n 3, 1) := by decide +kernel
theorem dL_changes_121 : decode cL_changes 121 = .ok (.imul, 1) := by decide +kernel
theorem dL_changes_122 : decode cL_changes 122 = .ok (.iload 4, 2) := by decide +kernel
theorem dL_changes_124 : decode cL_changes 124 = .ok (.iadd, 1) := by decide +kernel
theorem dL_changes_125 : decode cL_changes 125 = .ok (.iaload, 1) := by decide +kernel
theorem dL_changes_126 : decode cL_changes 126 = .ok (.istore 7, 2) := by decide +kernel
theorem dL_changes_128 : decode cL_changes 128 = .ok (.aload_n 1, 1) := by decide +kernel
theorem dL_changes_129 : decode cL_changes 129 = .ok (.getfield 182, 3) := by decide +kernel
theorem dL_changes_132 : decode cL_changes 132 = .ok (.iconst 4, 1) := by decide +kernel
theorem dL_changes_133 : decode cL_changes 133 = .ok (.iload_n 3, 1) := by decide +kernel
theorem dL_changes_134 : decode cL_changes 134 = .ok (.imul, 1) := by decide +kernel
theorem dL_changes_135 : decode cL_changes 135 = .ok (.iload 4, 2) := by decide +kernel
theorem dL_changes_137 : decode cL_changes 137 = .ok (.iadd, 1) := by decide +kernel
theorem dL_changes_138 : decode cL_changes 138 = .ok (.iload 6, 2) := by decide +kernel
theorem dL_changes_140 : decode cL_changes 140 = .ok (.iastore, 1) := by decide +kernel
theorem dL_changes_141 : decode cL_changes 141 = .ok (.aload_n 0, 1) := by decide +kernel
theorem dL_changes_142 : decode cL_changes 142 = .ok (.iload_n 3, 1) := by decide +kernel
theorem dL_changes_143 : decode cL_changes 143 = .ok (.iload 4, 2) := by decide +kernel
theorem dL_changes_145 : decode cL_changes 145 = .ok (.iload 6, 2) := by decide +kernel
theorem dL_changes_147 : decode cL_changes 147 = .ok (.invokevirtual 185, 3) := by decide +kernel
theorem dL_changes_150 : decode cL_changes 150 = .ok (.iload 7, 2) := by decide +kernel
theorem dL_changes_152 : decode cL_changes 152 = .ok (.if_icmp .ne 7, 3) := by decide +kernel
theorem dL_changes_155 : decode cL_changes 155 = .ok (.iconst 1, 1) := by decide +kernel
theorem dL_changes_156 : decode cL_changes 156 = .ok (.goto 4, 3) := by decide +kernel
theorem dL_changes_159 : decode cL_changes 159 = .ok (.iconst 0, 1) := by decide +kernel
theorem dL_changes_160 : decode cL_changes 160 = .ok (.ireturn, 1) := by decide +kernel
theorem dL_changes_161 : decode cL_changes 161 = .ok (.aload_n 1, 1) := by decide +kernel
theorem dL_changes_162 : decode cL_changes 162 = .ok (.getfield 188, 3) := by decide +kernel
theorem dL_changes_165 : decode cL_changes 165 = .ok (.iload_n 3, 1) := by decide +kernel
theorem dL_changes_166 : decode cL_changes 166 = .ok (.iaload, 1) := by decide +kernel
theorem dL_changes_167 : decode cL_changes 167 = .ok (.ifCond .lt 7, 3) := by decide +kernel
theorem dL_changes_170 : decode cL_changes 170 = .ok (.iconst 1, 1) := by decide +kernel
theorem dL_changes_171 : decode cL_changes 171 = .ok (.goto 4, 3) := by decide +kernel
theorem dL_changes_174 : decode cL_changes 174 = .ok (.iconst 0, 1) := by decide +kernel
theorem dL_changes_175 : decode cL_changes 175 = .ok (.istore 5, 2) := by decide +kernel
theorem dL_changes_177 : decode cL_changes 177 = .ok (.aload_n 1, 1) := by decide +kernel
theorem dL_changes_178 : decode cL_changes 178 = .ok (.getfield 188, 3) := by decide +kernel
theorem dL_changes_181 : decode cL_changes 181 = .ok (.iload_n 3, 1) := by decide +kernel
theorem dL_changes_182 : decode cL_changes 182 = .ok (.iload_n 2, 1) := by decide +kernel
theorem dL_changes_183 : decode cL_changes 183 = .ok (.bipush 8, 2) := by decide +kernel
theorem dL_changes_185 : decode cL_changes 185 = .ok (.ishr, 1) := by decide +kernel
theorem dL_changes_186 : decode cL_changes 186 = .ok (.bipush 12, 2) := by decide +kernel
theorem dL_changes_188 : decode cL_changes 188 = .ok (.invokestatic 50, 3) := by decide +kernel
theorem dL_changes_191 : decode cL_changes 191 = .ok (.iastore, 1) := by decide +kernel
theorem dL_changes_192 : decode cL_changes 192 = .ok (.aload_n 0, 1) := by decide +kernel
theorem dL_changes_193 : decode cL_changes 193 = .ok (.iload_n 3, 1) := by decide +kernel
theorem dL_changes_194 : decode cL_changes 194 = .ok (.aload_n 1, 1) := by decide +kernel
theorem dL_changes_195 : decode cL_changes 195 = .ok (.getfield 188, 3) := by decide +kernel
theorem dL_changes_198 : decode cL_changes 198 = .ok (.iload_n 3, 1) := by decide +kernel
theorem dL_changes_199 : decode cL_changes 199 = .ok (.iaload, 1) := by decide +kernel
theorem dL_changes_200 : decode cL_changes 200 = .ok (.invokevirtual 191, 3) := by decide +kernel
theorem dL_changes_203 : decode cL_changes 203 = .ok (.iload 5, 2) := by decide +kernel
theorem dL_changes_205 : decode cL_changes 205 = .ok (.if_icmp .ne 7, 3) := by decide +kernel
theorem dL_changes_208 : decode cL_changes 208 = .ok (.iconst 1, 1) := by decide +kernel
theorem dL_changes_209 : decode cL_changes 209 = .ok (.goto 4, 3) := by decide +kernel
theorem dL_changes_212 : decode cL_changes 212 = .ok (.iconst 0, 1) := by decide +kernel
theorem dL_changes_213 : decode cL_changes 213 = .ok (.ireturn, 1) := by decide +kernel
theorem dL_changes_214 : decode cL_changes 214 = .ok (.aload_n 1, 1) := by decide +kernel
theorem dL_changes_215 : decode cL_changes 215 = .ok (.getfield 188, 3) := by decide +kernel
theorem dL_changes_218 : decode cL_changes 218 = .ok (.iload_n 3, 1) := by decide +kernel
theorem dL_changes_219 : decode cL_changes 219 = .ok (.iaload, 1) := by decide +kernel
theorem dL_changes_220 : decode cL_changes 220 = .ok (.ifCond .lt 7, 3) := by decide +kernel
theorem dL_changes_223 : decode cL_changes 223 = .ok (.iconst 1, 1) := by decide +kernel
theorem dL_changes_224 : decode cL_changes 224 = .ok (.goto 4, 3) := by decide +kernel
theorem dL_changes_227 : decode cL_changes 227 = .ok (.iconst 0, 1) := by decide +kernel
theorem dL_changes_228 : decode cL_changes 228 = .ok (.istore 5, 2) := by decide +kernel
theorem dL_changes_230 : decode cL_changes 230 = .ok (.aload_n 1, 1) := by decide +kernel
theorem dL_changes_231 : decode cL_changes 231 = .ok (.getfield 188, 3) := by decide +kernel
theorem dL_changes_234 : decode cL_changes 234 = .ok (.iload_n 3, 1) := by decide +kernel
theorem dL_changes_235 : decode cL_changes 235 = .ok (.iconst (-1), 1) := by decide +kernel
theorem dL_changes_236 : decode cL_changes 236 = .ok (.iastore, 1) := by decide +kernel
theorem dL_changes_237 : decode cL_changes 237 = .ok (.aload_n 0, 1) := by decide +kernel
theorem dL_changes_238 : decode cL_changes 238 = .ok (.iload_n 3, 1) := by decide +kernel
theorem dL_changes_239 : decode cL_changes 239 = .ok (.invokevirtual 194, 3) := by decide +kernel
theorem dL_changes_242 : decode cL_changes 242 = .ok (.iload 5, 2) := by decide +kernel
theorem dL_changes_244 : decode cL_changes 244 = .ok (.if_icmp .ne 7, 3) := by decide +kernel
theorem dL_changes_247 : decode cL_changes 247 = .ok (.iconst 1, 1) := by decide +kernel
theorem dL_changes_248 : decode cL_changes 248 = .ok (.goto 4, 3) := by decide +kernel
theorem dL_changes_251 : decode cL_changes 251 = .ok (.iconst 0, 1) := by decide +kernel
theorem dL_changes_252 : decode cL_changes 252 = .ok (.ireturn, 1) := by decide +kernel
theorem dL_changes_253 : decode cL_changes 253 = .ok (.aload_n 1, 1) := by decide +kernel
theorem dL_changes_254 : decode cL_changes 254 = .ok (.getfield 59, 3) := by decide +kernel
theorem dL_changes_257 : decode cL_changes 257 = .ok (.iload_n 3, 1) := by decide +kernel
theorem dL_changes_258 : decode cL_changes 258 = .ok (.iaload, 1) := by decide +kernel
theorem dL_changes_259 : decode cL_changes 259 = .ok (.istore 5, 2) := by decide +kernel
theorem dL_changes_261 : decode cL_changes 261 = .ok (.aload_n 1, 1) := by decide +kernel
theorem dL_changes_262 : decode cL_changes 262 = .ok (.getfield 59, 3) := by decide +kernel
theorem dL_changes_265 : decode cL_changes 265 = .ok (.iload_n 3, 1) := by decide +kernel
theorem dL_changes_266 : decode cL_changes 266 = .ok (.iload 4, 2) := by decide +kernel
theorem dL_changes_268 : decode cL_changes 268 = .ok (.iastore, 1) := by decide +kernel
theorem dL_changes_269 : decode cL_changes 269 = .ok (.aload_n 0, 1) := by decide +kernel
theorem dL_changes_270 : decode cL_changes 270 = .ok (.iload_n 3, 1) := by decide +kernel
theorem dL_changes_271 : decode cL_changes 271 = .ok (.iload 4, 2) := by decide +kernel
theorem dL_changes_273 : decode cL_changes 273 = .ok (.invokevirtual 198, 3) := by decide +kernel
theorem dL_changes_276 : decode cL_changes 276 = .ok (.iload 5, 2) := by decide +kernel
theorem dL_changes_278 : decode cL_changes 278 = .ok (.if_icmp .ne 7, 3) := by decide +kernel
theorem dL_changes_281 : decode cL_changes 281 = .ok (.iconst 1, 1) := by decide +kernel
theorem dL_changes_282 : decode cL_changes 282 = .ok (.goto 4, 3) := by decide +kernel
theorem dL_changes_285 : decode cL_changes 285 = .ok (.iconst 0, 1) := by decide +kernel
theorem dL_changes_286 : decode cL_changes 286 = .ok (.ireturn, 1) := by decide +kernel
theorem dL_changes_287 : decode cL_changes 287 = .ok (.aload_n 0, 1) := by decide +kernel
theorem dL_changes_288 : decode cL_changes 288 = .ok (.iload_n 3, 1) := by decide +kernel
theorem dL_changes_289 : decode cL_changes 289 = .ok (.iload 4, 2) := by decide +kernel
theorem dL_changes_291 : decode cL_changes 291 = .ok (.invokestatic 201, 3) := by decide +kernel
theorem dL_changes_294 : decode cL_changes 294 = .ok (.bipush 50, 2) := by decide +kernel
theorem dL_changes_296 : decode cL_changes 296 = .ok (.if_icmp .lt 7, 3) := by decide +kernel
theorem dL_changes_299 : decode cL_changes 299 = .ok (.iconst 1, 1) := by decide +kernel
theorem dL_changes_300 : decode cL_changes 300 = .ok (.goto 4, 3) := by decide +kernel
theorem dL_changes_303 : decode cL_changes 303 = .ok (.iconst 0, 1) := by decide +kernel
theorem dL_changes_304 : decode cL_changes 304 = .ok (.istore 5, 2) := by decide +kernel
theorem dL_changes_306 : decode cL_changes 306 = .ok (.aload_n 0, 1) := by decide +kernel
theorem dL_changes_307 : decode cL_changes 307 = .ok (.iload_n 3, 1) := by decide +kernel
theorem dL_changes_308 : decode cL_changes 308 = .ok (.iload 4, 2) := by decide +kernel
theorem dL_changes_310 : decode cL_changes 310 = .ok (.invokestatic 204, 3) := by decide +kernel
theorem dL_changes_313 : decode cL_changes 313 = .ok (.istore 6, 2) := by decide +kernel
theorem dL_changes_315 : decode cL_changes 315 = .ok (.iload 5, 2) := by decide +kernel
theorem dL_changes_317 : decode cL_changes 317 = .ok (.ifCond .eq 18, 3) := by decide +kernel
theorem dL_changes_320 : decode cL_changes 320 = .ok (.iload 6, 2) := by decide +kernel
theorem dL_changes_322 : decode cL_changes 322 = .ok (.bipush (-2), 2) := by decide +kernel
theorem dL_changes_324 : decode cL_changes 324 = .ok (.if_icmp .ne 7, 3) := by decide +kernel
theorem dL_changes_327 : decode cL_changes 327 = .ok (.iconst 1, 1) := by decide +kernel
theorem dL_changes_328 : decode cL_changes 328 = .ok (.goto 50, 3) := by decide +kernel
theorem dL_changes_331 : decode cL_changes 331 = .ok (.iconst 0, 1) := by decide +kernel
theorem dL_changes_332 : decode cL_changes 332 = .ok (.goto 46, 3) := by decide +kernel
theorem dL_changes_335 : decode cL_changes 335 = .ok (.iload 6, 2) := by decide +kernel
theorem dL_changes_337 : decode cL_changes 337 = .ok (.bipush (-3), 2) := by decide +kernel
theorem dL_changes_339 : decode cL_changes 339 = .ok (.if_icmp .eq 34, 3) := by decide +kernel
theorem dL_changes_342 : decode cL_changes 342 = .ok (.iload 6, 2) := by decide +kernel
theorem dL_changes_344 : decode cL_changes 344 = .ok (.aload_n 1, 1) := by decide +kernel
theorem dL_changes_345 : decode cL_changes 345 = .ok (.getfield 40, 3) := by decide +kernel
theorem dL_changes_348 : decode cL_changes 348 = .ok (.iload 4, 2) := by decide +kernel
theorem dL_changes_350 : decode cL_changes 350 = .ok (.iaload, 1) := by decide +kernel
theorem dL_changes_351 : decode cL_changes 351 = .ok (.if_icmp .lt 26, 3) := by decide +kernel
theorem dL_changes_354 : decode cL_changes 354 = .ok (.iload 6, 2) := by decide +kernel
theorem dL_changes_356 : decode cL_changes 356 = .ok (.bipush 12, 2) := by decide +kernel
theorem dL_changes_358 : decode cL_changes 358 = .ok (.if_icmp .gt 19, 3) := by decide +kernel
theorem dL_changes_361 : decode cL_changes 361 = .ok (.aload_n 0, 1) := by decide +kernel
theorem dL_changes_362 : decode cL_changes 362 = .ok (.iload_n 3, 1) := by decide +kernel
theorem dL_changes_363 : decode cL_changes 363 = .ok (.iload 4, 2) := by decide +kernel
theorem dL_changes_365 : decode cL_changes 365 = .ok (.invokestatic 201, 3) := by decide +kernel
theorem dL_changes_368 : decode cL_changes 368 = .ok (.bipush 50, 2) := by decide +kernel
theorem dL_changes_370 : decode cL_changes 370 = .ok (.if_icmp .ne 7, 3) := by decide +kernel
theorem dL_changes_373 : decode cL_changes 373 = .ok (.iconst 1, 1) := by decide +kernel
theorem dL_changes_374 : decode cL_changes 374 = .ok (.goto 4, 3) := by decide +kernel
theorem dL_changes_377 : decode cL_changes 377 = .ok (.iconst 0, 1) := by decide +kernel
theorem dL_changes_378 : decode cL_changes 378 = .ok (.ireturn, 1) := by decide +kernel
