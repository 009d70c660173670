theorem dX8_init_0 : decode cX8_init 0 = .ok (.aload_n 0, 1) := by decide +kernel
theorem dX8_init_1 : decode cX8_init 1 = .ok (.invokespecial 1, 3) := by decide +kernel
theorem dX8_init_4 : decode cX8_init 4 = .ok (.aload_n 0, 1) := by decide +kernel
theorem dX8_init_5 : decode cX8_init 5 = .ok (.sipush 148, 3) := by decide +kernel
theorem dX8_init_8 : decode cX8_init 8 = .ok (.newarray .int, 2) := by decide +kernel
theorem dX8_init_10 : decode cX8_init 10 = .ok (.putfield 7, 3) := by decide +kernel
theorem dX8_init_13 : decode cX8_init 13 = .ok (.aload_n 0, 1) := by decide +kernel
theorem dX8_init_14 : decode cX8_init 14 = .ok (.bipush 37, 2) := by decide +kernel
theorem dX8_init_16 : decode cX8_init 16 = .ok (.newarray .int, 2) := by decide +kernel
theorem dX8_init_18 : decode cX8_init 18 = .ok (.putfield 13, 3) := by decide +kernel
theorem dX8_init_21 : decode cX8_init 21 = .ok (.aload_n 0, 1) := by decide +kernel
theorem dX8_init_22 : decode cX8_init 22 = .ok (.sipush 160, 3) := by decide +kernel
theorem dX8_init_25 : decode cX8_init 25 = .ok (.newarray .int, 2) := by decide +kernel
theorem dX8_init_27 : decode cX8_init 27 = .ok (.putfield 16, 3) := by decide +kernel
theorem dX8_init_30 : decode cX8_init 30 = .ok (.aload_n 0, 1) := by decide +kernel
theorem dX8_init_31 : decode cX8_init 31 = .ok (.bipush 9, 2) := by decide +kernel
theorem dX8_init_33 : decode cX8_init 33 = .ok (.newarray .int, 2) := by decide +kernel
theorem dX8_init_35 : decode cX8_init 35 = .ok (.dup, 1) := by decide +kernel
theorem dX8_init_36 : decode cX8_init 36 = .ok (.iconst 0, 1) := by decide +kernel
theorem dX8_init_37 : decode cX8_init 37 = .ok (.iconst 0, 1) := by decide +kernel
theorem dX8_init_38 : decode cX8_init 38 = .ok (.iastore, 1) := by decide +kernel
theorem dX8_init_39 : decode cX8_init 39 = .ok (.dup, 1) := by decide +kernel
theorem dX8_init_40 : decode cX8_init 40 = .ok (.iconst 1, 1) := by decide +kernel
theorem dX8_init_41 : decode cX8_init 41 = .ok (.iconst 5, 1) := by decide +kernel
theorem dX8_init_42 : decode cX8_init 42 = .ok (.iastore, 1) := by decide +kernel
theorem dX8_init_43 : decode cX8_init 43 = .ok (.dup, 1) := by decide +kernel
theorem dX8_init_44 : decode cX8_init 44 = .ok (.iconst 2, 1) := by decide +kernel
theorem dX8_init_45 : decode cX8_init 45 = .ok (.bipush 9, 2) := by decide +kernel
theorem dX8_init_47 : decode cX8_init 47 = .ok (.iastore, 1) := by decide +kernel
theorem dX8_init_48 : decode cX8_init 48 = .ok (.dup, 1) := by decide +kernel
theorem dX8_init_49 : decode cX8_init 49 = .ok (.iconst 3, 1) := by decide +kernel
theorem dX8_init_50 : decode cX8_init 50 = .ok (.bipush 17, 2) := by decide +kernel
theorem dX8_init_52 : decode cX8_init 52 = .ok (.iastore, 1) := by decide +kernel
theorem dX8_init_53 : decode cX8_init 53 = .ok (.dup, 1) := by decide +kernel
theorem dX8_init_54 : decode cX8_init 54 = .ok (.iconst 4, 1) := by decide +kernel
theorem dX8_init_55 : decode cX8_init 55 = .ok (.bipush 24, 2) := by decide +kernel
theorem dX8_init_57 : decode cX8_init 57 = .ok (.iastore, 1) := by decide +kernel
theorem dX8_init_58 : decode cX8_init 58 = .ok (.dup, 1) := by decide +kernel
theorem dX8_init_59 : decode cX8_init 59 = .ok (.iconst 5, 1) := by decide +kernel
theorem dX8_init_60 : decode cX8_init 60 = .ok (.bipush 28, 2) := by decide +kernel
theorem dX8_init_62 : decode cX8_init 62 = .ok (.iastore, 1) := by decide +kernel
theorem dX8_init_63 : decode cX8_init 63 = .ok (.dup, 1) := by decide +kernel
theorem dX8_init_64 : decode cX8_init 64 = .ok (.bipush 6, 2) := by decide +kernel
theorem dX8_init_66 : decode cX8_init 66 = .ok (.bipush 30, 2) := by decide +kernel
theorem dX8_init_68 : decode cX8_init 68 = .ok (.iastore, 1) := by decide +kernel
theorem dX8_init_69 : decode cX8_init 69 = .ok (.dup, 1) := by decide +kernel
theorem dX8_init_70 : decode cX8_init 70 = .ok (.bipush 7, 2) := by decide +kernel
theorem dX8_init_72 : decode cX8_init 72 = .ok (.bipush 35, 2) := by decide +kernel
theorem dX8_init_74 : decode cX8_init 74 = .ok (.iastore, 1) := by decide +kernel
theorem dX8_init_75 : decode cX8_init 75 = .ok (.dup, 1) := by decide +kernel
theorem dX8_init_76 : decode cX8_init 76 = .ok (.bipush 8, 2) := by decide +kernel
theorem dX8_init_78 : decode cX8_init 78 = .ok (.bipush 38, 2) := by decide +kernel
theorem dX8_init_80 : decode cX8_init 80 = .ok (.iastore, 1) := by decide +kernel
theorem dX8_init_81 : decode cX8_init 81 = .ok (.putfield 19, 3) := by decide +kernel
theorem dX8_init_84 : decode cX8_init 84 = .ok (.aload_n 0, 1) := by decide +kernel
theorem dX8_init_85 : decode cX8_init 85 = .ok (.bipush 38, 2) := by decide +kernel
theorem dX8_init_87 : decode cX8_init 87 = .ok (.newarray .int, 2) := by decide +kernel
theorem dX8_init_89 : decode cX8_init 89 = .ok (.dup, 1) := by decide +kernel
theorem dX8_init_90 : decode cX8_init 90 = .ok (.iconst 0, 1) := by decide +kernel
theorem dX8_init_91 : decode cX8_init 91 = .ok (.bipush 112, 2) := by decide +kernel
theorem dX8_init_93 : decode cX8_init 93 = .ok (.iastore, 1) := by decide +kernel
theorem dX8_init_94 : decode cX8_init 94 = .ok (.dup, 1) := by decide +kernel
theorem dX8_init_95 : decode cX8_init 95 = .ok (.iconst 1, 1) := by decide +kernel
theorem dX8_init_96 : decode cX8_init 96 = .ok (.bipush 108, 2) := by decide +kernel
theorem dX8_init_98 : decode cX8_init 98 = .ok (.iastore, 1) := by decide +kernel
theorem dX8_init_99 : decode cX8_init 99 = .ok (.dup, 1) := by decide +kernel
theorem dX8_init_100 : decode cX8_init 100 = .ok (.iconst 2, 1) := by decide +kernel
theorem dX8_init_101 : decode cX8_init 101 = .ok (.bipush 97, 2) := by decide +kernel
theorem dX8_init_103 : decode cX8_init 103 = .ok (.iastore, 1) := by decide +kernel
theorem dX8_init_104 : decode cX8_init 104 = .ok (.dup, 1) := by decide +kernel
theorem dX8_init_105 : decode cX8_init 105 = .ok (.iconst 3, 1) := by decide +kernel
theorem dX8_init_106 : decode cX8_init 106 = .ok (.bipush 105, 2) := by decide +kernel
theorem dX8_init_108 : decode cX8_init 108 = .ok (.iastore, 1) := by decide +kernel
theorem dX8_init_109 : decode cX8_init 109 = .ok (.dup, 1) := by decide +kernel
theorem dX8_init_110 : decode cX8_init 110 = .ok (.iconst 4, 1) := by decide +kernel
theorem dX8_init_111 : decode cX8_init 111 = .ok (.bipush 110, 2) := by decide +kernel
theorem dX8_init_113 : decode cX8_init 113 = .ok (.iastore, 1) := by decide +kernel
theorem dX8_init_114 : decode cX8_init 114 = .ok (.dup, 1) := by decide +kernel
theorem dX8_init_115 : decode cX8_init 115 = .ok (.iconst 5, 1) := by decide +kernel
theorem dX8_init_116 : decode cX8_init 116 = .ok (.bipush 101, 2) := by decide +kernel
theorem dX8_init_118 : decode cX8_init 118 = .ok (.iastore, 1) := by decide +kernel
theorem dX8_init_119 : decode cX8_init 119 = .ok (.dup, 1) := by decide +kernel
theorem dX8_init_120 : decode cX8_init 120 = .ok (.bipush 6, 2) := by decide +kernel
theorem dX8_init_122 : decode cX8_init 122 = .ok (.bipush 99, 2) := by decide +kernel
theorem dX8_init_124 : decode cX8_init 124 = .ok (.iastore, 1) := by decide +kernel
theorem dX8_init_125 : decode cX8_init 125 = .ok (.dup, 1) := by decide +kernel
theorem dX8_init_126 : decode cX8_init 126 = .ok (.bipush 7, 2) := by decide +kernel
theorem dX8_init_128 : decode cX8_init 128 = .ok (.bipush 104, 2) := by decide +kernel
theorem dX8_init_130 : decode cX8_init 130 = .ok (.iastore, 1) := by decide +kernel
theorem dX8_init_131 : decode cX8_init 131 = .ok (.dup, 1) := by decide +kernel
theorem dX8_init_132 : decode cX8_init 132 = .ok (.bipush 8, 2) := by decide +kernel
theorem dX8_init_134 : decode cX8_init 134 = .ok (.bipush 111, 2) := by decide +kernel
theorem dX8_init_136 : decode cX8_init 136 = .ok (.iastore, 1) := by decide +kernel
theorem dX8_init_137 : decode cX8_init 137 = .ok (.dup, 1) := by decide +kernel
theorem dX8_init_138 : decode cX8_init 138 = .ok (.bipush 9, 2) := by decide +kernel
theorem dX8_init_140 : decode cX8_init 140 = .ok (.bipush 99, 2) := by decide +kernel
theorem dX8_init_142 : decode cX8_init 142 = .ok (.iastore, 1) := by decide +kernel
theorem dX8_init_143 : decode cX8_init 143 = .ok (.dup, 1) := by decide +kernel
theorem dX8_init_144 : decode cX8_init 144 = .ok (.bipush 10, 2) := by decide +kernel
theorem dX8_init_146 : decode cX8_init 146 = .ok (.bipush 111, 2) := by decide +kernel
theorem dX8_init_148 : decode cX8_init 148 = .ok (.iastore, 1) := by decide +kernel
theorem dX8_init_149 : decode cX8_init 149 = .ok (.dup, 1) := by decide +kernel
theorem dX8_init_150 : decode cX8_init 150 = .ok (.bipush 11, 2) := by decide +kernel
theorem dX8_init_152 : decode cX8_init 152 = .ok (.bipush 110, 2) := by decide +kernel
theorem dX8_init_154 : decode cX8_init 154 = .ok (.iastore, 1) := by decide +kernel
theorem dX8_init_155 : decode cX8_init 155 = .ok (.dup, 1) := by decide +kernel
theorem dX8_init_156 : decode cX8_init 156 = .ok (.bipush 12, 2) := by decide +kernel
theorem dX8_init_158 : decode cX8_init 158 = .ok (.bipush 116, 2) := by decide +kernel
theorem dX8_init_160 : decode cX8_init 160 = .ok (.iastore, 1) := by decide +kernel
theorem dX8_init_161 : decode cX8_init 161 = .ok (.dup, 1) := by decide +kernel
theorem dX8_init_162 : decode cX8_init 162 = .ok (.bipush 13, 2) := by decide +kernel
theorem dX8_init_164 : decode cX8_init 164 = .ok (.bipush 114, 2) := by decide +kernel
theorem dX8_init_166 : decode cX8_init 166 = .ok (.iastore, 1) := by decide +kernel
theorem dX8_init_167 : decode cX8_init 167 = .ok (.dup, 1) := by decide +kernel
theorem dX8_init_168 : decode cX8_init 168 = .ok (.bipush 14, 2) := by decide +kernel
theorem dX8_init_170 : decode cX8_init 170 = .ok (.bipush 97, 2) := by decide +kernel
theorem dX8_init_172 : decode cX8_init 172 = .ok (.iastore, 1) := by decide +kernel
theorem dX8_init_173 : decode cX8_init 173 = .ok (.dup, 1) := by decide +kernel
theorem dX8_init_174 : decode cX8_init 174 = .ok (.bipush 15, 2) := by decide +kernel
theorem dX8_init_176 : decode cX8_init 176 = .ok (.bipush 114, 2) := by decide +kernel
theorem dX8_init_178 : decode cX8_init 178 = .ok (.iastore, 1) := by decide +kernel
theorem dX8_init_179 : decode cX8_init 179 = .ok (.dup, 1) := by decide +kernel
theorem dX8_init_180 : decode cX8_init 180 = .ok (.bipush 16, 2) := by decide +kernel
theorem dX8_init_182 : decode cX8_init 182 = .ok (.bipush 121, 2) := by decide +kernel
theorem dX8_init_184 : decode cX8_init 184 = .ok (.iastore, 1) := by decide +kernel
theorem dX8_init_185 : decode cX8_init 185 = .ok (.dup, 1) := by decide +kernel
theorem dX8_init_186 : decode cX8_init 186 = .ok (.bipush 17, 2) := by decide +kernel
theorem dX8_init_188 : decode cX8_init 188 = .ok (.bipush 106, 2) := by decide +kernel
theorem dX8_init_190 : decode cX8_init 190 = .ok (.iastore, 1) := by decide +kernel
theorem dX8_init_191 : decode cX8_init 191 = .ok (.dup, 1) := by decide +kernel
theorem dX8_init_192 : decode cX8_init 192 = .ok (.bipush 18, 2) := by decide +kernel
theorem dX8_init_194 : decode cX8_init 194 = .ok (.bipush 101, 2) := by decide +kernel
theorem dX8_init_196 : decode cX8_init 196 = .ok (.iastore, 1) := by decide +kernel
theorem dX8_init_197 : decode cX8_init 197 = .ok (.dup, 1) := by decide +kernel
theorem dX8_init_198 : decode cX8_init 198 = .ok (.bipush 19, 2) := by decide +kernel
theorem dX8_init_200 : decode cX8_init 200 = .ok (.bipush 97, 2) := by decide +kernel
theorem dX8_init_202 : decode cX8_init 202 = .ok (.iastore, 1) := by decide +kernel
theorem dX8_init_203 : decode cX8_init 203 = .ok (.dup, 1) := by decide +kernel
theorem dX8_init_204 : decode cX8_init 204 = .ok (.bipush 20, 2) := by decide +kernel
theorem dX8_init_206 : decode cX8_init 206 = .ok (.bipush 108, 2) := by decide +kernel
theorem dX8_init_208 : decode cX8_init 208 = .ok (.iastore, 1) := by decide +kernel
theorem dX8_init_209 : decode cX8_init 209 = .ok (.dup, 1) := by decide +kernel
theorem dX8_init_210 : decode cX8_init 210 = .ok (.bipush 21, 2) := by decide +kernel
theorem dX8_init_212 : decode cX8_init 212 = .ok (.bipush 111, 2) := by decide +kernel
theorem dX8_init_214 : decode cX8_init 214 = .ok (.iastore, 1) := by decide +kernel
theorem dX8_init_215 : decode cX8_init 215 = .ok (.dup, 1) := by decide +kernel
theorem dX8_init_216 : decode cX8_init 216 = .ok (.bipush 22, 2) := by decide +kernel
theorem dX8_init_218 : decode cX8_init 218 = .ok (.bipush 117, 2) := by decide +kernel
theorem dX8_init_220 : decode cX8_init 220 = .ok (.iastore, 1) := by decide +kernel
theorem dX8_init_221 : decode cX8_init 221 = .ok (.dup, 1) := by decide +kernel
theorem dX8_init_222 : decode cX8_init 222 = .ok (.bipush 23, 2) := by decide +kernel
theorem dX8_init_224 : decode cX8_init 224 = .ok (.bipush 115, 2) := by decide +kernel
theorem dX8_init_226 : decode cX8_init 226 = .ok (.iastore, 1) := by decide +kernel
theorem dX8_init_227 : decode cX8_init 227 = .ok (.dup, 1) := by decide +kernel
theorem dX8_init_228 : decode cX8_init 228 = .ok (.bipush 24, 2) := by decide +kernel
theorem dX8_init_230 : decode cX8_init 230 = .ok (.bipush 101, 2) := by decide +kernel
theorem dX8_init_232 : decode cX8_init 232 = .ok (.iastore, 1) := by decide +kernel
theorem dX8_init_233 : decode cX8_init 233 = .ok (.dup, 1) := by decide +kernel
theorem dX8_init_234 : decode cX8_init 234 = .ok (.bipush 25, 2) := by decide +kernel
theorem dX8_init_236 : decode cX8_init 236 = .ok (.bipush 97, 2) := by decide +kernel
theorem dX8_init_238 : decode cX8_init 238 = .ok (.iastore, 1) := by decide +kernel
theorem dX8_init_239 : decode cX8_init 239 = .ok (.dup, 1) := by decide +kernel
theorem dX8_init_240 : decode cX8_init 240 = .ok (.bipush 26, 2) := by decide +kernel
theorem dX8_init_242 : decode cX8_init 242 = .ok (.bipush 115, 2) := by decide +kernel
theorem dX8_init_244 : decode cX8_init 244 = .ok (.iastore, 1) := by decide +kernel
theorem dX8_init_245 : decode cX8_init 245 = .ok (.dup, 1) := by decide +kernel
theorem dX8_init_246 : decode cX8_init 246 = .ok (.bipush 27, 2) := by decide +kernel
theorem dX8_init_248 : decode cX8_init 248 = .ok (.bipush 121, 2) := by decide +kernel
theorem dX8_init_250 : decode cX8_init 250 = .ok (.iastore, 1) := by decide +kernel
theorem dX8_init_251 : decode cX8_init 251 = .ok (.dup, 1) := by decide +kernel
theorem dX8_init_252 : decode cX8_init 252 = .ok (.bipush 28, 2) := by decide +kernel
theorem dX8_init_254 : decode cX8_init 254 = .ok (.bipush 115, 2) := by decide +kernel
theorem dX8_init_256 : decode cX8_init 256 = .ok (.iastore, 1) := by decide +kernel
theorem dX8_init_257 : decode cX8_init 257 = .ok (.dup, 1) := by decide +kernel
theorem dX8_init_258 : decode cX8_init 258 = .ok (.bipush 29, 2) := by decide +kernel
theorem dX8_init_260 : decode cX8_init 260 = .ok (.bipush 111, 2) := by decide +kernel
theorem dX8_init_262 : decode cX8_init 262 = .ok (.iastore, 1) := by decide +kernel
theorem dX8_init_263 : decode cX8_init 263 = .ok (.dup, 1) := by decide +kernel
theorem dX8_init_264 : decode cX8_init 264 = .ok (.bipush 30, 2) := by decide +kernel
theorem dX8_init_266 : decode cX8_init 266 = .ok (.bipush 103, 2) := by decide +kernel
theorem dX8_init_268 : decode cX8_init 268 = .ok (.iastore, 1) := by decide +kernel
theorem dX8_init_269 : decode cX8_init 269 = .ok (.dup, 1) := by decide +kernel
theorem dX8_init_270 : decode cX8_init 270 = .ok (.bipush 31, 2) := by decide +kernel
theorem dX8_init_272 : decode cX8_init 272 = .ok (.bipush 117, 2) := by decide +kernel
theorem dX8_init_274 : decode cX8_init 274 = .ok (.iastore, 1) := by decide +kernel
theorem dX8_init_275 : decode cX8_init 275 = .ok (.dup, 1) := by decide +kernel
theorem dX8_init_276 : decode cX8_init 276 = .ok (.bipush 32, 2) := by decide +kernel
theorem dX8_init_278 : decode cX8_init 278 = .ok (.bipush 101, 2) := by decide +kernel
theorem dX8_init_280 : decode cX8_init 280 = .ok (.iastore, 1) := by decide +kernel
theorem dX8_init_281 : decode cX8_init 281 = .ok (.dup, 1) := by decide +kernel
theorem dX8_init_282 : decode cX8_init 282 = .ok (.bipush 33, 2) := by decide +kernel
theorem dX8_init_284 : decode cX8_init 284 = .ok (.bipush 115, 2) := by decide +kernel
theorem dX8_init_286 : decode cX8_init 286 = .ok (.iastore, 1) := by decide +kernel
theorem dX8_init_287 : decode cX8_init 287 = .ok (.dup, 1) := by decide +kernel
theorem dX8_init_288 : decode cX8_init 288 = .ok (.bipush 34, 2) := by decide +kernel
theorem dX8_init_290 : decode cX8_init 290 = .ok (.bipush 116, 2) := by decide +kernel
theorem dX8_init_292 : decode cX8_init 292 = .ok (.iastore, 1) := by decide +kernel
theorem dX8_init_293 : decode cX8_init 293 = .ok (.dup, 1) := by decide +kernel
theorem dX8_init_294 : decode cX8_init 294 = .ok (.bipush 35, 2) := by decide +kernel
theorem dX8_init_296 : decode cX8_init 296 = .ok (.bipush 98, 2) := by decide +kernel
theorem dX8_init_298 : decode cX8_init 298 = .ok (.iastore, 1) := by decide +kernel
theorem dX8_init_299 : decode cX8_init 299 = .ok (.dup, 1) := by decide +kernel
theorem dX8_init_300 : decode cX8_init 300 = .ok (.bipush 36, 2) := by decide +kernel
theorem dX8_init_302 : decode cX8_init 302 = .ok (.bipush 97, 2) := by decide +kernel
theorem dX8_init_304 : decode cX8_init 304 = .ok (.iastore, 1) := by decide +kernel
theorem dX8_init_305 : decode cX8_init 305 = .ok (.dup, 1) := by decide +kernel
theorem dX8_init_306 : decode cX8_init 306 = .ok (.bipush 37, 2) := by decide +kernel
theorem dX8_init_308 : decode cX8_init 308 = .ok (.bipush 110, 2) := by decide +kernel
theorem dX8_init_310 : decode cX8_init 310 = .ok (.iastore, 1) := by decide +kernel
theorem dX8_init_311 : decode cX8_init 311 = .ok (.putfield 22, 3) := by decide +kernel
theorem dX8_init_314 : decode cX8_init 314 = .ok (.aload_n 0, 1) := by decide +kernel
theorem dX8_init_315 : decode cX8_init 315 = .ok (.bipush 18, 2) := by decide +kernel
theorem dX8_init_317 : decode cX8_init 317 = .ok (.newarray .int, 2) := by decide +kernel
theorem dX8_init_319 : decode cX8_init 319 = .ok (.putfield 25, 3) := by decide +kernel
theorem dX8_init_322 : decode cX8_init 322 = .ok (.aload_n 0, 1) := by decide +kernel
theorem dX8_init_323 : decode cX8_init 323 = .ok (.bipush 60, 2) := by decide +kernel
theorem dX8_init_325 : decode cX8_init 325 = .ok (.newarray .int, 2) := by decide +kernel
theorem dX8_init_327 : decode cX8_init 327 = .ok (.putfield 28, 3) := by decide +kernel
theorem dX8_init_330 : decode cX8_init 330 = .ok (.aload_n 0, 1) := by decide +kernel
theorem dX8_init_331 : decode cX8_init 331 = .ok (.iconst 2, 1) := by decide +kernel
theorem dX8_init_332 : decode cX8_init 332 = .ok (.newarray .boolean, 2) := by decide +kernel
theorem dX8_init_334 : decode cX8_init 334 = .ok (.putfield 31, 3) := by decide +kernel
theorem dX8_init_337 : decode cX8_init 337 = .ok (.aload_n 0, 1) := by decide +kernel
theorem dX8_init_338 : decode cX8_init 338 = .ok (.iconst 4, 1) := by decide +kernel
theorem dX8_init_339 : decode cX8_init 339 = .ok (.newarray .int, 2) := by decide +kernel
theorem dX8_init_341 : decode cX8_init 341 = .ok (.dup, 1) := by decide +kernel
theorem dX8_init_342 : decode cX8_init 342 = .ok (.iconst 0, 1) := by decide +kernel
theorem dX8_init_343 : decode cX8_init 343 = .ok (.bipush (-4), 2) := by decide +kernel
theorem dX8_init_345 : decode cX8_init 345 = .ok (.iastore, 1) := by decide +kernel
theorem dX8_init_346 : decode cX8_init 346 = .ok (.dup, 1) := by decide +kernel
theorem dX8_init_347 : decode cX8_init 347 = .ok (.iconst 1, 1) := by decide +kernel
theorem dX8_init_348 : decode cX8_init 348 = .ok (.bipush (-4), 2) := by decide +kernel
theorem dX8_init_350 : decode cX8_init 350 = .ok (.iastore, 1) := by decide +kernel
theorem dX8_init_351 : decode cX8_init 351 = .ok (.dup, 1) := by decide +kernel
theorem dX8_init_352 : decode cX8_init 352 = .ok (.iconst 2, 1) := by decide +kernel
theorem dX8_init_353 : decode cX8_init 353 = .ok (.bipush (-4), 2) := by decide +kernel
theorem dX8_init_355 : decode cX8_init 355 = .ok (.iastore, 1) := by decide +kernel
theorem dX8_init_356 : decode cX8_init 356 = .ok (.dup, 1) := by decide +kernel
theorem dX8_init_357 : decode cX8_init 357 = .ok (.iconst 3, 1) := by decide +kernel
theorem dX8_init_358 : decode cX8_init 358 = .ok (.bipush (-4), 2) := by decide +kernel
theorem dX8_init_360 : decode cX8_init 360 = .ok (.iastore, 1) := by decide +kernel
theorem dX8_init_361 : decode cX8_init 361 = .ok (.putfield 35, 3) := by decide +kernel
theorem dX8_init_364 : decode cX8_init 364 = .ok (.aload_n 0, 1) := by decide +kernel
theorem dX8_init_365 : decode cX8_init 365 = .ok (.iconst 4, 1) := by decide +kernel
theorem dX8_init_366 : decode cX8_init 366 = .ok (.newarray .int, 2) := by decide +kernel
theorem dX8_init_368 : decode cX8_init 368 = .ok (.putfield 38, 3) := by decide +kernel
theorem dX8_init_371 : decode cX8_init 371 = .ok (.aload_n 0, 1) := by decide +kernel
theorem dX8_init_372 : decode cX8_init 372 = .ok (.sipush 160, 3) := by decide +kernel
theorem dX8_init_375 : decode cX8_init 375 = .ok (.newarray .int, 2) := by decide +kernel
theorem dX8_init_377 : decode cX8_init 377 = .ok (.putfield 41, 3) := by decide +kernel
theorem dX8_init_380 : decode cX8_init 380 = .ok (.return_, 1) := by decide +kernel
theorem dX8_in_0 : decode cX8_in 0 = .ok (.lload_n 0, 1) := by decide +kernel
theorem dX8_in_1 : decode cX8_in 1 = .ok (.lload_n 2, 1) := by decide +kernel
theorem dX8_in_2 : decode cX8_in 2 = .ok (.lcmp, 1) := by decide +kernel
theorem dX8_in_3 : decode cX8_in 3 = .ok (.ifCond .lt 14, 3) := by decide +kernel
theorem dX8_in_6 : decode cX8_in 6 = .ok (.lload_n 0, 1) := by decide +kernel
theorem dX8_in_7 : decode cX8_in 7 = .ok (.lload 4, 2) := by decide +kernel
theorem dX8_in_9 : decode cX8_in 9 = .ok (.lcmp, 1) := by decide +kernel
theorem dX8_in_10 : decode cX8_in 10 = .ok (.ifCond .gt 7, 3) := by decide +kernel
theorem dX8_in_13 : decode cX8_in 13 = .ok (.iconst 1, 1) := by decide +kernel
theorem dX8_in_14 : decode cX8_in 14 = .ok (.goto 4, 3) := by decide +kernel
theorem dX8_in_17 : decode cX8_in 17 = .ok (.iconst 0, 1) := by decide +kernel
theorem dX8_in_18 : decode cX8_in 18 = .ok (.ireturn, 1) := by decide +kernel
theorem dX8_feed_0 : decode cX8_feed 0 = .ok (.iload_n 1, 1) := by decide +kernel
theorem dX8_feed_1 : decode cX8_feed 1 = .ok (.i2l, 1) := by decide +kernel
theorem dX8_feed_2 : decode cX8_feed 2 = .ok (.lconst 0, 1) := by decide +kernel
theorem dX8_feed_3 : decode cX8_feed 3 = .ok (.ldc2_w 44, 3) := by decide +kernel
theorem dX8_feed_6 : decode cX8_feed 6 = .ok (.invokestatic 46, 3) := by decide +kernel
theorem dX8_feed_9 : decode cX8_feed 9 = .ok (.ifCond .ne 5, 3) := by decide +kernel
theorem dX8_feed_12 : decode cX8_feed 12 = .ok (.iconst (-1), 1) := by decide +kernel
theorem dX8_feed_13 : decode cX8_feed 13 = .ok (.ireturn, 1) := by decide +kernel
theorem dX8_feed_14 : decode cX8_feed 14 = .ok (.aload_n 0, 1) := by decide +kernel
theorem dX8_feed_15 : decode cX8_feed 15 = .ok (.getfield 50, 3) := by decide +kernel
theorem dX8_feed_18 : decode cX8_feed 18 = .ok (.sipush 160, 3) := by decide +kernel
theorem dX8_feed_21 : decode cX8_feed 21 = .ok (.if_icmp .ne 6, 3) := by decide +kernel
theorem dX8_feed_24 : decode cX8_feed 24 = .ok (.bipush (-3), 2) := by decide +kernel
theorem dX8_feed_26 : decode cX8_feed 26 = .ok (.ireturn, 1) := by decide +kernel
theorem dX8_feed_27 : decode cX8_feed 27 = .ok (.aload_n 0, 1) := by decide +kernel
theorem dX8_feed_28 : decode cX8_feed 28 = .ok (.getfield 16, 3) := by decide +kernel
theorem dX8_feed_31 : decode cX8_feed 31 = .ok (.aload_n 0, 1) := by decide +kernel
theorem dX8_feed_32 : decode cX8_feed 32 = .ok (.getfield 50, 3) := by decide +kernel
theorem dX8_feed_35 : decode cX8_feed 35 = .ok (.iload_n 1, 1) := by decide +kernel
theorem dX8_feed_36 : decode cX8_feed 36 = .ok (.iastore, 1) := by decide +kernel
theorem dX8_feed_37 : decode cX8_feed 37 = .ok (.aload_n 0, 1) := by decide +kernel
theorem dX8_feed_38 : decode cX8_feed 38 = .ok (.dup, 1) := by decide +kernel
theorem dX8_feed_39 : decode cX8_feed 39 = .ok (.getfield 50, 3) := by decide +kernel
theorem dX8_feed_42 : decode cX8_feed 42 = .ok (.iconst 1, 1) := by decide +kernel
theorem dX8_feed_43 : decode cX8_feed 43 = .ok (.iadd, 1) := by decide +kernel
theorem dX8_feed_44 : decode cX8_feed 44 = .ok (.putfield 50, 3) := by decide +kernel
theorem dX8_feed_47 : decode cX8_feed 47 = .ok (.aload_n 0, 1) := by decide +kernel
theorem dX8_feed_48 : decode cX8_feed 48 = .ok (.getfield 50, 3) := by decide +kernel
theorem dX8_feed_51 : decode cX8_feed 51 = .ok (.ireturn, 1) := by decide +kernel
theorem dX8_end_0 : decode cX8_end 0 = .ok (.iload_n 1, 1) := by decide +kernel
theorem dX8_end_1 : decode cX8_end 1 = .ok (.i2l, 1) := by decide +kernel
theorem dX8_end_2 : decode cX8_end 2 = .ok (.lconst 0, 1) := by decide +kernel
theorem dX8_end_3 : decode cX8_end 3 = .ok (.aload_n 0, 1) := by decide +kernel
theorem dX8_end_4 : decode cX8_end 4 = .ok (.getfield 50, 3) := by decide +kernel
theorem dX8_end_7 : decode cX8_end 7 = .ok (.i2l, 1) := by decide +kernel
theorem dX8_end_8 : decode cX8_end 8 = .ok (.invokestatic 46, 3) := by decide +kernel
theorem dX8_end_11 : decode cX8_end 11 = .ok (.ifCond .ne 5, 3) := by decide +kernel
theorem dX8_end_14 : decode cX8_end 14 = .ok (.iconst (-1), 1) := by decide +kernel
theorem dX8_end_15 : decode cX8_end 15 = .ok (.ireturn, 1) := by decide +kernel
theorem dX8_end_16 : decode cX8_end 16 = .ok (.aload_n 0, 1) := by decide +kernel
theorem dX8_end_17 : decode cX8_end 17 = .ok (.getfield 50, 3) := by decide +kernel
theorem dX8_end_20 : decode cX8_end 20 = .ok (.istore_n 2, 1) := by decide +kernel
theorem dX8_end_21 : decode cX8_end 21 = .ok (.aload_n 0, 1) := by decide +kernel
theorem dX8_end_22 : decode cX8_end 22 = .ok (.iload_n 1, 1) := by decide +kernel
theorem dX8_end_23 : decode cX8_end 23 = .ok (.putfield 50, 3) := by decide +kernel
theorem dX8_end_26 : decode cX8_end 26 = .ok (.iload_n 2, 1) := by decide +kernel
theorem dX8_end_27 : decode cX8_end 27 = .ok (.ireturn, 1) := by decide +kernel
theorem dX8_byteAt_0 : decode cX8_byteAt 0 = .ok (.iload_n 1, 1) := by decide +kernel
theorem dX8_byteAt_1 : decode cX8_byteAt 1 = .ok (.aload_n 0, 1) := by decide +kernel
theorem dX8_byteAt_2 : decode cX8_byteAt 2 = .ok (.getfield 50, 3) := by decide +kernel
theorem dX8_byteAt_5 : decode cX8_byteAt 5 = .ok (.if_icmp .ge 12, 3) := by decide +kernel
theorem dX8_byteAt_8 : decode cX8_byteAt 8 = .ok (.aload_n 0, 1) := by decide +kernel
theorem dX8_byteAt_9 : decode cX8_byteAt 9 = .ok (.getfield 16, 3) := by decide +kernel
theorem dX8_byteAt_12 : decode cX8_byteAt 12 = .ok (.iload_n 1, 1) := by decide +kernel
theorem dX8_byteAt_13 : decode cX8_byteAt 13 = .ok (.iaload, 1) := by decide +kernel
theorem dX8_byteAt_14 : decode cX8_byteAt 14 = .ok (.goto 5, 3) := by decide +kernel
theorem dX8_byteAt_17 : decode cX8_byteAt 17 = .ok (.bipush (-4), 2) := by decide +kernel
theorem dX8_byteAt_19 : decode cX8_byteAt 19 = .ok (.ireturn, 1) := by decide +kernel
theorem dX8_fails_0 : decode cX8_fails 0 = .ok (.aload_n 0, 1) := by decide +kernel
theorem dX8_fails_1 : decode cX8_fails 1 = .ok (.getfield 54, 3) := by decide +kernel
theorem dX8_fails_4 : decode cX8_fails 4 = .ok (.ifCond .ne 16, 3) := by decide +kernel
theorem dX8_fails_7 : decode cX8_fails 7 = .ok (.aload_n 0, 1) := by decide +kernel
theorem dX8_fails_8 : decode cX8_fails 8 = .ok (.iload_n 1, 1) := by decide +kernel
theorem dX8_fails_9 : decode cX8_fails 9 = .ok (.putfield 54, 3) := by decide +kernel
theorem dX8_fails_12 : decode cX8_fails 12 = .ok (.aload_n 0, 1) := by decide +kernel
theorem dX8_fails_13 : decode cX8_fails 13 = .ok (.aload_n 0, 1) := by decide +kernel
theorem dX8_fails_14 : decode cX8_fails 14 = .ok (.getfield 57, 3) := by decide +kernel
theorem dX8_fails_17 : decode cX8_fails 17 = .ok (.putfield 60, 3) := by decide +kernel
theorem dX8_fails_20 : decode cX8_fails 20 = .ok (.return_, 1) := by decide +kernel
theorem dX8_nameHere_0 : decode cX8_nameHere 0 = .ok (.iconst 0, 1) := by decide +kernel
theorem dX8_nameHere_1 : decode cX8_nameHere 1 = .ok (.istore_n 1, 1) := by decide +kernel
theorem dX8_nameHere_2 : decode cX8_nameHere 2 = .ok (.iload_n 1, 1) := by decide +kernel
theorem dX8_nameHere_3 : decode cX8_nameHere 3 = .ok (.bipush 8, 2) := by decide +kernel
theorem dX8_nameHere_5 : decode cX8_nameHere 5 = .ok (.if_icmp .ge 113, 3) := by decide +kernel
theorem dX8_nameHere_8 : decode cX8_nameHere 8 = .ok (.aload_n 0, 1) := by decide +kernel
theorem dX8_nameHere_9 : decode cX8_nameHere 9 = .ok (.getfield 63, 3) := by decide +kernel
theorem dX8_nameHere_12 : decode cX8_nameHere 12 = .ok (.iconst 1, 1) := by decide +kernel
theorem dX8_nameHere_13 : decode cX8_nameHere 13 = .ok (.if_icmp .ne 105, 3) := by decide +kernel
theorem dX8_nameHere_16 : decode cX8_nameHere 16 = .ok (.aload_n 0, 1) := by decide +kernel
theorem dX8_nameHere_17 : decode cX8_nameHere 17 = .ok (.getfield 66, 3) := by decide +kernel
theorem dX8_nameHere_20 : decode cX8_nameHere 20 = .ok (.aload_n 0, 1) := by decide +kernel
theorem dX8_nameHere_21 : decode cX8_nameHere 21 = .ok (.getfield 57, 3) := by decide +kernel
theorem dX8_nameHere_24 : decode cX8_nameHere 24 = .ok (.isub, 1) := by decide +kernel
theorem dX8_nameHere_25 : decode cX8_nameHere 25 = .ok (.aload_n 0, 1) := by decide +kernel
theorem dX8_nameHere_26 : decode cX8_nameHere 26 = .ok (.getfield 19, 3) := by decide +kernel
theorem dX8_nameHere_29 : decode cX8_nameHere 29 = .ok (.iload_n 1, 1) := by decide +kernel
theorem dX8_nameHere_30 : decode cX8_nameHere 30 = .ok (.iconst 1, 1) := by decide +kernel
theorem dX8_nameHere_31 : decode cX8_nameHere 31 = .ok (.iadd, 1) := by decide +kernel
theorem dX8_nameHere_32 : decode cX8_nameHere 32 = .ok (.iaload, 1) := by decide +kernel
theorem dX8_nameHere_33 : decode cX8_nameHere 33 = .ok (.aload_n 0, 1) := by decide +kernel
theorem dX8_nameHere_34 : decode cX8_nameHere 34 = .ok (.getfield 19, 3) := by decide +kernel
theorem dX8_nameHere_37 : decode cX8_nameHere 37 = .ok (.iload_n 1, 1) := by decide +kernel
theorem dX8_nameHere_38 : decode cX8_nameHere 38 = .ok (.iaload, 1) := by decide +kernel
theorem dX8_nameHere_39 : decode cX8_nameHere 39 = .ok (.isub, 1) := by decide +kernel
theorem dX8_nameHere_40 : decode cX8_nameHere 40 = .ok (.if_icmp .ne 7, 3) := by decide +kernel
theorem dX8_nameHere_43 : decode cX8_nameHere 43 = .ok (.iconst 1, 1) := by decide +kernel
theorem dX8_nameHere_44 : decode cX8_nameHere 44 = .ok (.goto 4, 3) := by decide +kernel
theorem dX8_nameHere_47 : decode cX8_nameHere 47 = .ok (.iconst 0, 1) := by decide +kernel
theorem dX8_nameHere_48 : decode cX8_nameHere 48 = .ok (.istore_n 2, 1) := by decide +kernel
theorem dX8_nameHere_49 : decode cX8_nameHere 49 = .ok (.iconst 0, 1) := by decide +kernel
theorem dX8_nameHere_50 : decode cX8_nameHere 50 = .ok (.istore_n 3, 1) := by decide +kernel
theorem dX8_nameHere_51 : decode cX8_nameHere 51 = .ok (.iload_n 2, 1) := by decide +kernel
theorem dX8_nameHere_52 : decode cX8_nameHere 52 = .ok (.ifCond .eq 54, 3) := by decide +kernel
theorem dX8_nameHere_55 : decode cX8_nameHere 55 = .ok (.iload_n 3, 1) := by decide +kernel
theorem dX8_nameHere_56 : decode cX8_nameHere 56 = .ok (.aload_n 0, 1) := by decide +kernel
theorem dX8_nameHere_57 : decode cX8_nameHere 57 = .ok (.getfield 66, 3) := by decide +kernel
theorem dX8_nameHere_60 : decode cX8_nameHere 60 = .ok (.aload_n 0, 1) := by decide +kernel
theorem dX8_nameHere_61 : decode cX8_nameHere 61 = .ok (.getfield 57, 3) := by decide +kernel
theorem dX8_nameHere_64 : decode cX8_nameHere 64 = .ok (.isub, 1) := by decide +kernel
theorem dX8_nameHere_65 : decode cX8_nameHere 65 = .ok (.if_icmp .ge 41, 3) := by decide +kernel
theorem dX8_nameHere_68 : decode cX8_nameHere 68 = .ok (.aload_n 0, 1) := by decide +kernel
theorem dX8_nameHere_69 : decode cX8_nameHere 69 = .ok (.aload_n 0, 1) := by decide +kernel
theorem dX8_nameHere_70 : decode cX8_nameHere 70 = .ok (.getfield 57, 3) := by decide +kernel
theorem dX8_nameHere_73 : decode cX8_nameHere 73 = .ok (.iload_n 3, 1) := by decide +kernel
theorem dX8_nameHere_74 : decode cX8_nameHere 74 = .ok (.iadd, 1) := by decide +kernel
theorem dX8_nameHere_75 : decode cX8_nameHere 75 = .ok (.invokevirtual 69, 3) := by decide +kernel
theorem dX8_nameHere_78 : decode cX8_nameHere 78 = .ok (.aload_n 0, 1) := by decide +kernel
theorem dX8_nameHere_79 : decode cX8_nameHere 79 = .ok (.getfield 22, 3) := by decide +kernel
theorem dX8_nameHere_82 : decode cX8_nameHere 82 = .ok (.aload_n 0, 1) := by decide +kernel
theorem dX8_nameHere_83 : decode cX8_nameHere 83 = .ok (.getfield 19, 3) := by decide +kernel
theorem dX8_nameHere_86 : decode cX8_nameHere 86 = .ok (.iload_n 1, 1) := by decide +kernel
theorem dX8_nameHere_87 : decode cX8_nameHere 87 = .ok (.iaload, 1) := by decide +kernel
theorem dX8_nameHere_88 : decode cX8_nameHere 88 = .ok (.iload_n 3, 1) := by decide +kernel
theorem dX8_nameHere_89 : decode cX8_nameHere 89 = .ok (.iadd, 1) := by decide +kernel
theorem dX8_nameHere_90 : decode cX8_nameHere 90 = .ok (.iaload, 1) := by decide +kernel
theorem dX8_nameHere_91 : decode cX8_nameHere 91 = .ok (.if_icmp .ne 7, 3) := by decide +kernel
theorem dX8_nameHere_94 : decode cX8_nameHere 94 = .ok (.iconst 1, 1) := by decide +kernel
theorem dX8_nameHere_95 : decode cX8_nameHere 95 = .ok (.goto 4, 3) := by decide +kernel
theorem dX8_nameHere_98 : decode cX8_nameHere 98 = .ok (.iconst 0, 1) := by decide +kernel
theorem dX8_nameHere_99 : decode cX8_nameHere 99 = .ok (.istore_n 2, 1) := by decide +kernel
theorem dX8_nameHere_100 : decode cX8_nameHere 100 = .ok (.iinc 3 1, 3) := by decide +kernel
theorem dX8_nameHere_103 : decode cX8_nameHere 103 = .ok (.goto (-52), 3) := by decide +kernel
theorem dX8_nameHere_106 : decode cX8_nameHere 106 = .ok (.iload_n 2, 1) := by decide +kernel
theorem dX8_nameHere_107 : decode cX8_nameHere 107 = .ok (.ifCond .eq 5, 3) := by decide +kernel
theorem dX8_nameHere_110 : decode cX8_nameHere 110 = .ok (.iload_n 1, 1) := by decide +kernel
theorem dX8_nameHere_111 : decode cX8_nameHere 111 = .ok (.ireturn, 1) := by decide +kernel
theorem dX8_nameHere_112 : decode cX8_nameHere 112 = .ok (.iinc 1 1, 3) := by decide +kernel
theorem dX8_nameHere_115 : decode cX8_nameHere 115 = .ok (.goto (-113), 3) := by decide +kernel
theorem dX8_nameHere_118 : decode cX8_nameHere 118 = .ok (.bipush (-4), 2) := by decide +kernel
theorem dX8_nameHere_120 : decode cX8_nameHere 120 = .ok (.ireturn, 1) := by decide +kernel
theorem dX8_step_0 : decode cX8_step 0 = .ok (.aload_n 0, 1) := by decide +kernel
theorem dX8_step_1 : decode cX8_step 1 = .ok (.getfield 54, 3) := by decide +kernel
theorem dX8_step_4 : decode cX8_step 4 = .ok (.ifCond .le 4, 3) := by decide +kernel
theorem dX8_step_7 : decode cX8_step 7 = .ok (.return_, 1) := by decide +kernel
theorem dX8_step_8 : decode cX8_step 8 = .ok (.aload_n 0, 1) := by decide +kernel
theorem dX8_step_9 : decode cX8_step 9 = .ok (.aload_n 0, 1) := by decide +kernel
theorem dX8_step_10 : decode cX8_step 10 = .ok (.getfield 66, 3) := by decide +kernel
theorem dX8_step_13 : decode cX8_step 13 = .ok (.invokevirtual 69, 3) := by decide +kernel
theorem dX8_step_16 : decode cX8_step 16 = .ok (.bipush 32, 2) := by decide +kernel
theorem dX8_step_18 : decode cX8_step 18 = .ok (.if_icmp .ne 16, 3) := by decide +kernel
theorem dX8_step_21 : decode cX8_step 21 = .ok (.aload_n 0, 1) := by decide +kernel
theorem dX8_step_22 : decode cX8_step 22 = .ok (.dup, 1) := by decide +kernel
theorem dX8_step_23 : decode cX8_step 23 = .ok (.getfield 66, 3) := by decide +kernel
theorem dX8_step_26 : decode cX8_step 26 = .ok (.iconst 1, 1) := by decide +kernel
theorem dX8_step_27 : decode cX8_step 27 = .ok (.iadd, 1) := by decide +kernel
theorem dX8_step_28 : decode cX8_step 28 = .ok (.putfield 66, 3) := by decide +kernel
theorem dX8_step_31 : decode cX8_step 31 = .ok (.goto (-23), 3) := by decide +kernel
theorem dX8_step_34 : decode cX8_step 34 = .ok (.aload_n 0, 1) := by decide +kernel
theorem dX8_step_35 : decode cX8_step 35 = .ok (.aload_n 0, 1) := by decide +kernel
theorem dX8_step_36 : decode cX8_step 36 = .ok (.getfield 66, 3) := by decide +kernel
theorem dX8_step_39 : decode cX8_step 39 = .ok (.putfield 57, 3) := by decide +kernel
theorem dX8_step_42 : decode cX8_step 42 = .ok (.aload_n 0, 1) := by decide +kernel
theorem dX8_step_43 : decode cX8_step 43 = .ok (.aload_n 0, 1) := by decide +kernel
theorem dX8_step_44 : decode cX8_step 44 = .ok (.getfield 66, 3) := by decide +kernel
theorem dX8_step_47 : decode cX8_step 47 = .ok (.invokevirtual 69, 3) := by decide +kernel
theorem dX8_step_50 : decode cX8_step 50 = .ok (.istore_n 1, 1) := by decide +kernel
theorem dX8_step_51 : decode cX8_step 51 = .ok (.aload_n 0, 1) := by decide +kernel
theorem dX8_step_52 : decode cX8_step 52 = .ok (.iconst 0, 1) := by decide +kernel
theorem dX8_step_53 : decode cX8_step 53 = .ok (.putfield 73, 3) := by decide +kernel
theorem dX8_step_56 : decode cX8_step 56 = .ok (.iload_n 1, 1) := by decide +kernel
theorem dX8_step_57 : decode cX8_step 57 = .ok (.bipush (-4), 2) := by decide +kernel
theorem dX8_step_59 : decode cX8_step 59 = .ok (.if_icmp .ne 11, 3) := by decide +kernel
theorem dX8_step_62 : decode cX8_step 62 = .ok (.aload_n 0, 1) := by decide +kernel
theorem dX8_step_63 : decode cX8_step 63 = .ok (.iconst 0, 1) := by decide +kernel
theorem dX8_step_64 : decode cX8_step 64 = .ok (.putfield 63, 3) := by decide +kernel
theorem dX8_step_67 : decode cX8_step 67 = .ok (.goto 202, 3) := by decide +kernel
theorem dX8_step_70 : decode cX8_step 70 = .ok (.iload_n 1, 1) := by decide +kernel
theorem dX8_step_71 : decode cX8_step 71 = .ok (.i2l, 1) := by decide +kernel
theorem dX8_step_72 : decode cX8_step 72 = .ok (.ldc2_w 76, 3) := by decide +kernel
theorem dX8_step_75 : decode cX8_step 75 = .ok (.ldc2_w 78, 3) := by decide +kernel
theorem dX8_step_78 : decode cX8_step 78 = .ok (.invokestatic 46, 3) := by decide +kernel
theorem dX8_step_81 : decode cX8_step 81 = .ok (.ifCond .eq 45, 3) := by decide +kernel
theorem dX8_step_84 : decode cX8_step 84 = .ok (.aload_n 0, 1) := by decide +kernel
theorem dX8_step_85 : decode cX8_step 85 = .ok (.aload_n 0, 1) := by decide +kernel
theorem dX8_step_86 : decode cX8_step 86 = .ok (.getfield 66, 3) := by decide +kernel
theorem dX8_step_89 : decode cX8_step 89 = .ok (.invokevirtual 69, 3) := by decide +kernel
theorem dX8_step_92 : decode cX8_step 92 = .ok (.i2l, 1) := by decide +kernel
theorem dX8_step_93 : decode cX8_step 93 = .ok (.ldc2_w 76, 3) := by decide +kernel
theorem dX8_step_96 : decode cX8_step 96 = .ok (.ldc2_w 78, 3) := by decide +kernel
theorem dX8_step_99 : decode cX8_step 99 = .ok (.invokestatic 46, 3) := by decide +kernel
theorem dX8_step_102 : decode cX8_step 102 = .ok (.ifCond .eq 16, 3) := by decide +kernel
theorem dX8_step_105 : decode cX8_step 105 = .ok (.aload_n 0, 1) := by decide +kernel
theorem dX8_step_106 : decode cX8_step 106 = .ok (.dup, 1) := by decide +kernel
theorem dX8_step_107 : decode cX8_step 107 = .ok (.getfield 66, 3) := by decide +kernel
theorem dX8_step_110 : decode cX8_step 110 = .ok (.iconst 1, 1) := by decide +kernel
theorem dX8_step_111 : decode cX8_step 111 = .ok (.iadd, 1) := by decide +kernel
theorem dX8_step_112 : decode cX8_step 112 = .ok (.putfield 66, 3) := by decide +kernel
theorem dX8_step_115 : decode cX8_step 115 = .ok (.goto (-31), 3) := by decide +kernel
theorem dX8_step_118 : decode cX8_step 118 = .ok (.aload_n 0, 1) := by decide +kernel
theorem dX8_step_119 : decode cX8_step 119 = .ok (.iconst 1, 1) := by decide +kernel
theorem dX8_step_120 : decode cX8_step 120 = .ok (.putfield 63, 3) := by decide +kernel
theorem dX8_step_123 : decode cX8_step 123 = .ok (.goto 146, 3) := by decide +kernel
theorem dX8_step_126 : decode cX8_step 126 = .ok (.iload_n 1, 1) := by decide +kernel
theorem dX8_step_127 : decode cX8_step 127 = .ok (.i2l, 1) := by decide +kernel
theorem dX8_step_128 : decode cX8_step 128 = .ok (.ldc2_w 80, 3) := by decide +kernel
theorem dX8_step_131 : decode cX8_step 131 = .ok (.ldc2_w 82, 3) := by decide +kernel
theorem dX8_step_134 : decode cX8_step 134 = .ok (.invokestatic 46, 3) := by decide +kernel
theorem dX8_step_137 : decode cX8_step 137 = .ok (.ifCond .eq 106, 3) := by decide +kernel
theorem dX8_step_140 : decode cX8_step 140 = .ok (.aload_n 0, 1) := by decide +kernel
theorem dX8_step_141 : decode cX8_step 141 = .ok (.aload_n 0, 1) := by decide +kernel
theorem dX8_step_142 : decode cX8_step 142 = .ok (.getfield 66, 3) := by decide +kernel
theorem dX8_step_145 : decode cX8_step 145 = .ok (.invokevirtual 69, 3) := by decide +kernel
theorem dX8_step_148 : decode cX8_step 148 = .ok (.i2l, 1) := by decide +kernel
theorem dX8_step_149 : decode cX8_step 149 = .ok (.ldc2_w 80, 3) := by decide +kernel
theorem dX8_step_152 : decode cX8_step 152 = .ok (.ldc2_w 82, 3) := by decide +kernel
theorem dX8_step_155 : decode cX8_step 155 = .ok (.invokestatic 46, 3) := by decide +kernel
theorem dX8_step_158 : decode cX8_step 158 = .ok (.ifCond .eq 59, 3) := by decide +kernel
theorem dX8_step_161 : decode cX8_step 161 = .ok (.aload_n 0, 1) := by decide +kernel
theorem dX8_step_162 : decode cX8_step 162 = .ok (.aload_n 0, 1) := by decide +kernel
theorem dX8_step_163 : decode cX8_step 163 = .ok (.getfield 66, 3) := by decide +kernel
theorem dX8_step_166 : decode cX8_step 166 = .ok (.aload_n 0, 1) := by decide +kernel
theorem dX8_step_167 : decode cX8_step 167 = .ok (.getfield 57, 3) := by decide +kernel
theorem dX8_step_170 : decode cX8_step 170 = .ok (.isub, 1) := by decide +kernel
theorem dX8_step_171 : decode cX8_step 171 = .ok (.iconst 2, 1) := by decide +kernel
theorem dX8_step_172 : decode cX8_step 172 = .ok (.if_icmp .ge 25, 3) := by decide +kernel
theorem dX8_step_175 : decode cX8_step 175 = .ok (.bipush 10, 2) := by decide +kernel
theorem dX8_step_177 : decode cX8_step 177 = .ok (.aload_n 0, 1) := by decide +kernel
theorem dX8_step_178 : decode cX8_step 178 = .ok (.getfield 73, 3) := by decide +kernel
theorem dX8_step_181 : decode cX8_step 181 = .ok (.imul, 1) := by decide +kernel
theorem dX8_step_182 : decode cX8_step 182 = .ok (.aload_n 0, 1) := by decide +kernel
theorem dX8_step_183 : decode cX8_step 183 = .ok (.aload_n 0, 1) := by decide +kernel
theorem dX8_step_184 : decode cX8_step 184 = .ok (.getfield 66, 3) := by decide +kernel
theorem dX8_step_187 : decode cX8_step 187 = .ok (.invokevirtual 69, 3) := by decide +kernel
theorem dX8_step_190 : decode cX8_step 190 = .ok (.iadd, 1) := by decide +kernel
theorem dX8_step_191 : decode cX8_step 191 = .ok (.bipush 48, 2) := by decide +kernel
theorem dX8_step_193 : decode cX8_step 193 = .ok (.isub, 1) := by decide +kernel
theorem dX8_step_194 : decode cX8_step 194 = .ok (.goto 7, 3) := by decide +kernel
theorem dX8_step_197 : decode cX8_step 197 = .ok (.aload_n 0, 1) := by decide +kernel
theorem dX8_step_198 : decode cX8_step 198 = .ok (.getfield 73, 3) := by decide +kernel
theorem dX8_step_201 : decode cX8_step 201 = .ok (.putfield 73, 3) := by decide +kernel
theorem dX8_step_204 : decode cX8_step 204 = .ok (.aload_n 0, 1) := by decide +kernel
theorem dX8_step_205 : decode cX8_step 205 = .ok (.dup, 1) := by decide +kernel
theorem dX8_step_206 : decode cX8_step 206 = .ok (.getfield 66, 3) := by decide +kernel
theorem dX8_step_209 : decode cX8_step 209 = .ok (.iconst 1, 1) := by decide +kernel
theorem dX8_step_210 : decode cX8_step 210 = .ok (.iadd, 1) := by decide +kernel
theorem dX8_step_211 : decode cX8_step 211 = .ok (.putfield 66, 3) := by decide +kernel
theorem dX8_step_214 : decode cX8_step 214 = .ok (.goto (-74), 3) := by decide +kernel
theorem dX8_step_217 : decode cX8_step 217 = .ok (.aload_n 0, 1) := by decide +kernel
theorem dX8_step_218 : decode cX8_step 218 = .ok (.iconst 2, 1) := by decide +kernel
theorem dX8_step_219 : decode cX8_step 219 = .ok (.putfield 63, 3) := by decide +kernel
theorem dX8_step_222 : decode cX8_step 222 = .ok (.aload_n 0, 1) := by decide +kernel
theorem dX8_step_223 : decode cX8_step 223 = .ok (.getfield 66, 3) := by decide +kernel
theorem dX8_step_226 : decode cX8_step 226 = .ok (.aload_n 0, 1) := by decide +kernel
theorem dX8_step_227 : decode cX8_step 227 = .ok (.getfield 57, 3) := by decide +kernel
theorem dX8_step_230 : decode cX8_step 230 = .ok (.isub, 1) := by decide +kernel
theorem dX8_step_231 : decode cX8_step 231 = .ok (.iconst 2, 1) := by decide +kernel
theorem dX8_step_232 : decode cX8_step 232 = .ok (.if_icmp .le 37, 3) := by decide +kernel
theorem dX8_step_235 : decode cX8_step 235 = .ok (.aload_n 0, 1) := by decide +kernel
theorem dX8_step_236 : decode cX8_step 236 = .ok (.iconst 1, 1) := by decide +kernel
theorem dX8_step_237 : decode cX8_step 237 = .ok (.invokevirtual 84, 3) := by decide +kernel
theorem dX8_step_240 : decode cX8_step 240 = .ok (.goto 29, 3) := by decide +kernel
theorem dX8_step_243 : decode cX8_step 243 = .ok (.aload_n 0, 1) := by decide +kernel
theorem dX8_step_244 : decode cX8_step 244 = .ok (.iconst 3, 1) := by decide +kernel
theorem dX8_step_245 : decode cX8_step 245 = .ok (.putfield 63, 3) := by decide +kernel
theorem dX8_step_248 : decode cX8_step 248 = .ok (.aload_n 0, 1) := by decide +kernel
theorem dX8_step_249 : decode cX8_step 249 = .ok (.dup, 1) := by decide +kernel
theorem dX8_step_250 : decode cX8_step 250 = .ok (.getfield 66, 3) := by decide +kernel
theorem dX8_step_253 : decode cX8_step 253 = .ok (.iconst 1, 1) := by decide +kernel
theorem dX8_step_254 : decode cX8_step 254 = .ok (.iadd, 1) := by decide +kernel
theorem dX8_step_255 : decode cX8_step 255 = .ok (.putfield 66, 3) := by decide +kernel
theorem dX8_step_258 : decode cX8_step 258 = .ok (.iload_n 1, 1) := by decide +kernel
theorem dX8_step_259 : decode cX8_step 259 = .ok (.bipush 59, 2) := by decide +kernel
theorem dX8_step_261 : decode cX8_step 261 = .ok (.if_icmp .eq 8, 3) := by decide +kernel
theorem dX8_step_264 : decode cX8_step 264 = .ok (.aload_n 0, 1) := by decide +kernel
theorem dX8_step_265 : decode cX8_step 265 = .ok (.iconst 1, 1) := by decide +kernel
theorem dX8_step_266 : decode cX8_step 266 = .ok (.invokevirtual 84, 3) := by decide +kernel
theorem dX8_step_269 : decode cX8_step 269 = .ok (.return_, 1) := by decide +kernel
theorem dX8_other_0 : decode cX8_other 0 = .ok (.aload_n 0, 1) := by decide +kernel
theorem dX8_other_1 : decode cX8_other 1 = .ok (.getfield 54, 3) := by decide +kernel
theorem dX8_other_4 : decode cX8_other 4 = .ok (.ifCond .ne 16, 3) := by decide +kernel
theorem dX8_other_7 : decode cX8_other 7 = .ok (.aload_n 0, 1) := by decide +kernel
theorem dX8_other_8 : decode cX8_other 8 = .ok (.getfield 63, 3) := by decide +kernel
theorem dX8_other_11 : decode cX8_other 11 = .ok (.iconst 2, 1) := by decide +kernel
theorem dX8_other_12 : decode cX8_other 12 = .ok (.if_icmp .eq 8, 3) := by decide +kernel
theorem dX8_other_15 : decode cX8_other 15 = .ok (.aload_n 0, 1) := by decide +kernel
theorem dX8_other_16 : decode cX8_other 16 = .ok (.iconst 2, 1) := by decide +kernel
theorem dX8_other_17 : decode cX8_other 17 = .ok (.invokevirtual 84, 3) := by decide +kernel
theorem dX8_other_20 : decode cX8_other 20 = .ok (.aload_n 0, 1) := by decide +kernel
theorem dX8_other_21 : decode cX8_other 21 = .ok (.getfield 54, 3) := by decide +kernel
theorem dX8_other_24 : decode cX8_other 24 = .ok (.ifCond .ne 23, 3) := by decide +kernel
theorem dX8_other_27 : decode cX8_other 27 = .ok (.aload_n 0, 1) := by decide +kernel
theorem dX8_other_28 : decode cX8_other 28 = .ok (.getfield 73, 3) := by decide +kernel
theorem dX8_other_31 : decode cX8_other 31 = .ok (.i2l, 1) := by decide +kernel
theorem dX8_other_32 : decode cX8_other 32 = .ok (.iload_n 1, 1) := by decide +kernel
theorem dX8_other_33 : decode cX8_other 33 = .ok (.i2l, 1) := by decide +kernel
theorem dX8_other_34 : decode cX8_other 34 = .ok (.iload_n 2, 1) := by decide +kernel
theorem dX8_other_35 : decode cX8_other 35 = .ok (.i2l, 1) := by decide +kernel
theorem dX8_other_36 : decode cX8_other 36 = .ok (.invokestatic 46, 3) := by decide +kernel
theorem dX8_other_39 : decode cX8_other 39 = .ok (.ifCond .ne 8, 3) := by decide +kernel
theorem dX8_other_42 : decode cX8_other 42 = .ok (.aload_n 0, 1) := by decide +kernel
theorem dX8_other_43 : decode cX8_other 43 = .ok (.iconst 3, 1) := by decide +kernel
theorem dX8_other_44 : decode cX8_other 44 = .ok (.invokevirtual 84, 3) := by decide +kernel
theorem dX8_other_47 : decode cX8_other 47 = .ok (.aload_n 0, 1) := by decide +kernel
theorem dX8_other_48 : decode cX8_other 48 = .ok (.getfield 54, 3) := by decide +kernel
theorem dX8_other_51 : decode cX8_other 51 = .ok (.ifCond .ne 20, 3) := by decide +kernel
theorem dX8_other_54 : decode cX8_other 54 = .ok (.iload_n 3, 1) := by decide +kernel
theorem dX8_other_55 : decode cX8_other 55 = .ok (.aload_n 0, 1) := by decide +kernel
theorem dX8_other_56 : decode cX8_other 56 = .ok (.getfield 73, 3) := by decide +kernel
theorem dX8_other_59 : decode cX8_other 59 = .ok (.ishr, 1) := by decide +kernel
theorem dX8_other_60 : decode cX8_other 60 = .ok (.iconst 1, 1) := by decide +kernel
theorem dX8_other_61 : decode cX8_other 61 = .ok (.iand, 1) := by decide +kernel
theorem dX8_other_62 : decode cX8_other 62 = .ok (.iconst 1, 1) := by decide +kernel
theorem dX8_other_63 : decode cX8_other 63 = .ok (.if_icmp .ne 8, 3) := by decide +kernel
theorem dX8_other_66 : decode cX8_other 66 = .ok (.aload_n 0, 1) := by decide +kernel
theorem dX8_other_67 : decode cX8_other 67 = .ok (.iconst 4, 1) := by decide +kernel
theorem dX8_other_68 : decode cX8_other 68 = .ok (.invokevirtual 84, 3) := by decide +kernel
theorem dX8_other_71 : decode cX8_other 71 = .ok (.aload_n 0, 1) := by decide +kernel
theorem dX8_other_72 : decode cX8_other 72 = .ok (.getfield 54, 3) := by decide +kernel
theorem dX8_other_75 : decode cX8_other 75 = .ok (.ifCond .ne 10, 3) := by decide +kernel
theorem dX8_other_78 : decode cX8_other 78 = .ok (.aload_n 0, 1) := by decide +kernel
theorem dX8_other_79 : decode cX8_other 79 = .ok (.getfield 73, 3) := by decide +kernel
theorem dX8_other_82 : decode cX8_other 82 = .ok (.goto 4, 3) := by decide +kernel
theorem dX8_other_85 : decode cX8_other 85 = .ok (.iload_n 1, 1) := by decide +kernel
theorem dX8_other_86 : decode cX8_other 86 = .ok (.istore 4, 2) := by decide +kernel
theorem dX8_other_88 : decode cX8_other 88 = .ok (.aload_n 0, 1) := by decide +kernel
theorem dX8_other_89 : decode cX8_other 89 = .ok (.invokevirtual 88, 3) := by decide +kernel
theorem dX8_other_92 : decode cX8_other 92 = .ok (.iload 4, 2) := by decide +kernel
theorem dX8_other_94 : decode cX8_other 94 = .ok (.ireturn, 1) := by decide +kernel
theorem dX8_thingHere_0 : decode cX8_thingHere 0 = .ok (.aload_n 0, 1) := by decide +kernel
theorem dX8_thingHere_1 : decode cX8_thingHere 1 = .ok (.iconst 0, 1) := by decide +kernel
theorem dX8_thingHere_2 : decode cX8_thingHere 2 = .ok (.iconst 5, 1) := by decide +kernel
theorem dX8_thingHere_3 : decode cX8_thingHere 3 = .ok (.iload_n 1, 1) := by decide +kernel
theorem dX8_thingHere_4 : decode cX8_thingHere 4 = .ok (.invokevirtual 91, 3) := by decide +kernel
theorem dX8_thingHere_7 : decode cX8_thingHere 7 = .ok (.istore_n 2, 1) := by decide +kernel
theorem dX8_thingHere_8 : decode cX8_thingHere 8 = .ok (.aload_n 0, 1) := by decide +kernel
theorem dX8_thingHere_9 : decode cX8_thingHere 9 = .ok (.iload_n 2, 1) := by decide +kernel
theorem dX8_thingHere_10 : decode cX8_thingHere 10 = .ok (.aload_n 0, 1) := by decide +kernel
theorem dX8_thingHere_11 : decode cX8_thingHere 11 = .ok (.getfield 95, 3) := by decide +kernel
theorem dX8_thingHere_14 : decode cX8_thingHere 14 = .ok (.if_icmp .le 7, 3) := by decide +kernel
theorem dX8_thingHere_17 : decode cX8_thingHere 17 = .ok (.iload_n 2, 1) := by decide +kernel
theorem dX8_thingHere_18 : decode cX8_thingHere 18 = .ok (.goto 7, 3) := by decide +kernel
theorem dX8_thingHere_21 : decode cX8_thingHere 21 = .ok (.aload_n 0, 1) := by decide +kernel
theorem dX8_thingHere_22 : decode cX8_thingHere 22 = .ok (.getfield 95, 3) := by decide +kernel
theorem dX8_thingHere_25 : decode cX8_thingHere 25 = .ok (.putfield 95, 3) := by decide +kernel
theorem dX8_thingHere_28 : decode cX8_thingHere 28 = .ok (.iload_n 2, 1) := by decide +kernel
theorem dX8_thingHere_29 : decode cX8_thingHere 29 = .ok (.ireturn, 1) := by decide +kernel
theorem dX8_readBan_0 : decode cX8_readBan 0 = .ok (.bipush 27, 2) := by decide +kernel
theorem dX8_readBan_2 : decode cX8_readBan 2 = .ok (.iconst 2, 1) := by decide +kernel
theorem dX8_readBan_3 : decode cX8_readBan 3 = .ok (.aload_n 0, 1) := by decide +kernel
theorem dX8_readBan_4 : decode cX8_readBan 4 = .ok (.getfield 13, 3) := by decide +kernel
theorem dX8_readBan_7 : decode cX8_readBan 7 = .ok (.bipush 35, 2) := by decide +kernel
theorem dX8_readBan_9 : decode cX8_readBan 9 = .ok (.iaload, 1) := by decide +kernel
theorem dX8_readBan_10 : decode cX8_readBan 10 = .ok (.imul, 1) := by decide +kernel
theorem dX8_readBan_11 : decode cX8_readBan 11 = .ok (.iadd, 1) := by decide +kernel
theorem dX8_readBan_12 : decode cX8_readBan 12 = .ok (.istore_n 1, 1) := by decide +kernel
theorem dX8_readBan_13 : decode cX8_readBan 13 = .ok (.aload_n 0, 1) := by decide +kernel
theorem dX8_readBan_14 : decode cX8_readBan 14 = .ok (.iconst 0, 1) := by decide +kernel
theorem dX8_readBan_15 : decode cX8_readBan 15 = .ok (.invokevirtual 98, 3) := by decide +kernel
theorem dX8_readBan_18 : decode cX8_readBan 18 = .ok (.istore_n 2, 1) := by decide +kernel
theorem dX8_readBan_19 : decode cX8_readBan 19 = .ok (.aload_n 0, 1) := by decide +kernel
theorem dX8_readBan_20 : decode cX8_readBan 20 = .ok (.getfield 54, 3) := by decide +kernel
theorem dX8_readBan_23 : decode cX8_readBan 23 = .ok (.ifCond .ne 24, 3) := by decide +kernel
theorem dX8_readBan_26 : decode cX8_readBan 26 = .ok (.aload_n 0, 1) := by decide +kernel
theorem dX8_readBan_27 : decode cX8_readBan 27 = .ok (.getfield 63, 3) := by decide +kernel
theorem dX8_readBan_30 : decode cX8_readBan 30 = .ok (.iconst 2, 1) := by decide +kernel
theorem dX8_readBan_31 : decode cX8_readBan 31 = .ok (.if_icmp .ne 16, 3) := by decide +kernel
theorem dX8_readBan_34 : decode cX8_readBan 34 = .ok (.aload_n 0, 1) := by decide +kernel
theorem dX8_readBan_35 : decode cX8_readBan 35 = .ok (.getfield 73, 3) := by decide +kernel
theorem dX8_readBan_38 : decode cX8_readBan 38 = .ok (.iload_n 2, 1) := by decide +kernel
theorem dX8_readBan_39 : decode cX8_readBan 39 = .ok (.if_icmp .ne 8, 3) := by decide +kernel
theorem dX8_readBan_42 : decode cX8_readBan 42 = .ok (.aload_n 0, 1) := by decide +kernel
theorem dX8_readBan_43 : decode cX8_readBan 43 = .ok (.iconst 3, 1) := by decide +kernel
theorem dX8_readBan_44 : decode cX8_readBan 44 = .ok (.invokevirtual 84, 3) := by decide +kernel
theorem dX8_readBan_47 : decode cX8_readBan 47 = .ok (.aload_n 0, 1) := by decide +kernel
theorem dX8_readBan_48 : decode cX8_readBan 48 = .ok (.getfield 13, 3) := by decide +kernel
theorem dX8_readBan_51 : decode cX8_readBan 51 = .ok (.iload_n 1, 1) := by decide +kernel
theorem dX8_readBan_52 : decode cX8_readBan 52 = .ok (.iload_n 2, 1) := by decide +kernel
theorem dX8_readBan_53 : decode cX8_readBan 53 = .ok (.iastore, 1) := by decide +kernel
theorem dX8_readBan_54 : decode cX8_readBan 54 = .ok (.aload_n 0, 1) := by decide +kernel
theorem dX8_readBan_55 : decode cX8_readBan 55 = .ok (.getfield 13, 3) := by decide +kernel
theorem dX8_readBan_58 : decode cX8_readBan 58 = .ok (.iload_n 1, 1) := by decide +kernel
theorem dX8_readBan_59 : decode cX8_readBan 59 = .ok (.iconst 1, 1) := by decide +kernel
theorem dX8_readBan_60 : decode cX8_readBan 60 = .ok (.iadd, 1) := by decide +kernel
theorem dX8_readBan_61 : decode cX8_readBan 61 = .ok (.aload_n 0, 1) := by decide +kernel
theorem dX8_readBan_62 : decode cX8_readBan 62 = .ok (.iconst 0, 1) := by decide +kernel
theorem dX8_readBan_63 : decode cX8_readBan 63 = .ok (.invokevirtual 98, 3) := by decide +kernel
theorem dX8_readBan_66 : decode cX8_readBan 66 = .ok (.iastore, 1) := by decide +kernel
theorem dX8_readBan_67 : decode cX8_readBan 67 = .ok (.aload_n 0, 1) := by decide +kernel
theorem dX8_readBan_68 : decode cX8_readBan 68 = .ok (.getfield 13, 3) := by decide +kernel
theorem dX8_readBan_71 : decode cX8_readBan 71 = .ok (.bipush 35, 2) := by decide +kernel
theorem dX8_readBan_73 : decode cX8_readBan 73 = .ok (.dup2, 1) := by decide +kernel
theorem dX8_readBan_74 : decode cX8_readBan 74 = .ok (.iaload, 1) := by decide +kernel
theorem dX8_readBan_75 : decode cX8_readBan 75 = .ok (.iconst 1, 1) := by decide +kernel
theorem dX8_readBan_76 : decode cX8_readBan 76 = .ok (.iadd, 1) := by decide +kernel
theorem dX8_readBan_77 : decode cX8_readBan 77 = .ok (.iastore, 1) := by decide +kernel
theorem dX8_readBan_78 : decode cX8_readBan 78 = .ok (.return_, 1) := by decide +kernel
theorem dX8_readMore_0 : decode cX8_readMore 0 = .ok (.iload_n 1, 1) := by decide +kernel
theorem dX8_readMore_1 : decode cX8_readMore 1 = .ok (.iconst 4, 1) := by decide +kernel
theorem dX8_readMore_2 : decode cX8_readMore 2 = .ok (.if_icmp .gt 78, 3) := by decide +kernel
theorem dX8_readMore_5 : decode cX8_readMore 5 = .ok (.aload_n 0, 1) := by decide +kernel
theorem dX8_readMore_6 : decode cX8_readMore 6 = .ok (.getfield 101, 3) := by decide +kernel
theorem dX8_readMore_9 : decode cX8_readMore 9 = .ok (.istore_n 2, 1) := by decide +kernel
theorem dX8_readMore_10 : decode cX8_readMore 10 = .ok (.aload_n 0, 1) := by decide +kernel
theorem dX8_readMore_11 : decode cX8_readMore 11 = .ok (.getfield 13, 3) := by decide +kernel
theorem dX8_readMore_14 : decode cX8_readMore 14 = .ok (.iload_n 2, 1) := by decide +kernel
theorem dX8_readMore_15 : decode cX8_readMore 15 = .ok (.iload_n 1, 1) := by decide +kernel
theorem dX8_readMore_16 : decode cX8_readMore 16 = .ok (.iastore, 1) := by decide +kernel
theorem dX8_readMore_17 : decode cX8_readMore 17 = .ok (.aload_n 0, 1) := by decide +kernel
theorem dX8_readMore_18 : decode cX8_readMore 18 = .ok (.getfield 13, 3) := by decide +kernel
theorem dX8_readMore_21 : decode cX8_readMore 21 = .ok (.bipush 6, 2) := by decide +kernel
theorem dX8_readMore_23 : decode cX8_readMore 23 = .ok (.iload_n 2, 1) := by decide +kernel
theorem dX8_readMore_24 : decode cX8_readMore 24 = .ok (.iadd, 1) := by decide +kernel
theorem dX8_readMore_25 : decode cX8_readMore 25 = .ok (.iload_n 1, 1) := by decide +kernel
theorem dX8_readMore_26 : decode cX8_readMore 26 = .ok (.iconst 1, 1) := by decide +kernel
theorem dX8_readMore_27 : decode cX8_readMore 27 = .ok (.if_icmp .lt 13, 3) := by decide +kernel
theorem dX8_readMore_30 : decode cX8_readMore 30 = .ok (.aload_n 0, 1) := by decide +kernel
theorem dX8_readMore_31 : decode cX8_readMore 31 = .ok (.iconst 0, 1) := by decide +kernel
theorem dX8_readMore_32 : decode cX8_readMore 32 = .ok (.invokevirtual 98, 3) := by decide +kernel
theorem dX8_readMore_35 : decode cX8_readMore 35 = .ok (.iload_n 2, 1) := by decide +kernel
theorem dX8_readMore_36 : decode cX8_readMore 36 = .ok (.isub, 1) := by decide +kernel
theorem dX8_readMore_37 : decode cX8_readMore 37 = .ok (.goto 4, 3) := by decide +kernel
theorem dX8_readMore_40 : decode cX8_readMore 40 = .ok (.iconst 0, 1) := by decide +kernel
theorem dX8_readMore_41 : decode cX8_readMore 41 = .ok (.iastore, 1) := by decide +kernel
theorem dX8_readMore_42 : decode cX8_readMore 42 = .ok (.aload_n 0, 1) := by decide +kernel
theorem dX8_readMore_43 : decode cX8_readMore 43 = .ok (.getfield 13, 3) := by decide +kernel
theorem dX8_readMore_46 : decode cX8_readMore 46 = .ok (.bipush 12, 2) := by decide +kernel
theorem dX8_readMore_48 : decode cX8_readMore 48 = .ok (.iload_n 2, 1) := by decide +kernel
theorem dX8_readMore_49 : decode cX8_readMore 49 = .ok (.iadd, 1) := by decide +kernel
theorem dX8_readMore_50 : decode cX8_readMore 50 = .ok (.iload_n 1, 1) := by decide +kernel
theorem dX8_readMore_51 : decode cX8_readMore 51 = .ok (.iconst 3, 1) := by decide +kernel
theorem dX8_readMore_52 : decode cX8_readMore 52 = .ok (.if_icmp .lt 13, 3) := by decide +kernel
theorem dX8_readMore_55 : decode cX8_readMore 55 = .ok (.aload_n 0, 1) := by decide +kernel
theorem dX8_readMore_56 : decode cX8_readMore 56 = .ok (.iconst 0, 1) := by decide +kernel
theorem dX8_readMore_57 : decode cX8_readMore 57 = .ok (.invokevirtual 98, 3) := by decide +kernel
theorem dX8_readMore_60 : decode cX8_readMore 60 = .ok (.iload_n 2, 1) := by decide +kernel
theorem dX8_readMore_61 : decode cX8_readMore 61 = .ok (.isub, 1) := by decide +kernel
theorem dX8_readMore_62 : decode cX8_readMore 62 = .ok (.goto 4, 3) := by decide +kernel
theorem dX8_readMore_65 : decode cX8_readMore 65 = .ok (.iconst 0, 1) := by decide +kernel
theorem dX8_readMore_66 : decode cX8_readMore 66 = .ok (.iastore, 1) := by decide +kernel
theorem dX8_readMore_67 : decode cX8_readMore 67 = .ok (.aload_n 0, 1) := by decide +kernel
theorem dX8_readMore_68 : decode cX8_readMore 68 = .ok (.dup, 1) := by decide +kernel
theorem dX8_readMore_69 : decode cX8_readMore 69 = .ok (.getfield 101, 3) := by decide +kernel
theorem dX8_readMore_72 : decode cX8_readMore 72 = .ok (.iconst 1, 1) := by decide +kernel
theorem dX8_readMore_73 : decode cX8_readMore 73 = .ok (.iadd, 1) := by decide +kernel
theorem dX8_readMore_74 : decode cX8_readMore 74 = .ok (.putfield 101, 3) := by decide +kernel
theorem dX8_readMore_77 : decode cX8_readMore 77 = .ok (.goto 94, 3) := by decide +kernel
theorem dX8_readMore_80 : decode cX8_readMore 80 = .ok (.iload_n 1, 1) := by decide +kernel
theorem dX8_readMore_81 : decode cX8_readMore 81 = .ok (.iconst 5, 1) := by decide +kernel
theorem dX8_readMore_82 : decode cX8_readMore 82 = .ok (.if_icmp .ne 29, 3) := by decide +kernel
theorem dX8_readMore_85 : decode cX8_readMore 85 = .ok (.aload_n 0, 1) := by decide +kernel
theorem dX8_readMore_86 : decode cX8_readMore 86 = .ok (.getfield 13, 3) := by decide +kernel
theorem dX8_readMore_89 : decode cX8_readMore 89 = .ok (.bipush 18, 2) := by decide +kernel
theorem dX8_readMore_91 : decode cX8_readMore 91 = .ok (.dup2, 1) := by decide +kernel
theorem dX8_readMore_92 : decode cX8_readMore 92 = .ok (.iaload, 1) := by decide +kernel
theorem dX8_readMore_93 : decode cX8_readMore 93 = .ok (.iconst 1, 1) := by decide +kernel
theorem dX8_readMore_94 : decode cX8_readMore 94 = .ok (.aload_n 0, 1) := by decide +kernel
theorem dX8_readMore_95 : decode cX8_readMore 95 = .ok (.aload_n 0, 1) := by decide +kernel
theorem dX8_readMore_96 : decode cX8_readMore 96 = .ok (.getfield 13, 3) := by decide +kernel
theorem dX8_readMore_99 : decode cX8_readMore 99 = .ok (.bipush 18, 2) := by decide +kernel
theorem dX8_readMore_101 : decode cX8_readMore 101 = .ok (.iaload, 1) := by decide +kernel
theorem dX8_readMore_102 : decode cX8_readMore 102 = .ok (.invokevirtual 98, 3) := by decide +kernel
theorem dX8_readMore_105 : decode cX8_readMore 105 = .ok (.ishl, 1) := by decide +kernel
theorem dX8_readMore_106 : decode cX8_readMore 106 = .ok (.ior, 1) := by decide +kernel
theorem dX8_readMore_107 : decode cX8_readMore 107 = .ok (.iastore, 1) := by decide +kernel
theorem dX8_readMore_108 : decode cX8_readMore 108 = .ok (.goto 63, 3) := by decide +kernel
theorem dX8_readMore_111 : decode cX8_readMore 111 = .ok (.iload_n 1, 1) := by decide +kernel
theorem dX8_readMore_112 : decode cX8_readMore 112 = .ok (.bipush 6, 2) := by decide +kernel
theorem dX8_readMore_114 : decode cX8_readMore 114 = .ok (.if_icmp .ne 53, 3) := by decide +kernel
theorem dX8_readMore_117 : decode cX8_readMore 117 = .ok (.aload_n 0, 1) := by decide +kernel
theorem dX8_readMore_118 : decode cX8_readMore 118 = .ok (.getfield 13, 3) := by decide +kernel
theorem dX8_readMore_121 : decode cX8_readMore 121 = .ok (.bipush 19, 2) := by decide +kernel
theorem dX8_readMore_123 : decode cX8_readMore 123 = .ok (.aload_n 0, 1) := by decide +kernel
theorem dX8_readMore_124 : decode cX8_readMore 124 = .ok (.getfield 104, 3) := by decide +kernel
theorem dX8_readMore_127 : decode cX8_readMore 127 = .ok (.iadd, 1) := by decide +kernel
theorem dX8_readMore_128 : decode cX8_readMore 128 = .ok (.aload_n 0, 1) := by decide +kernel
theorem dX8_readMore_129 : decode cX8_readMore 129 = .ok (.iconst 0, 1) := by decide +kernel
theorem dX8_readMore_130 : decode cX8_readMore 130 = .ok (.invokevirtual 98, 3) := by decide +kernel
theorem dX8_readMore_133 : decode cX8_readMore 133 = .ok (.iastore, 1) := by decide +kernel
theorem dX8_readMore_134 : decode cX8_readMore 134 = .ok (.aload_n 0, 1) := by decide +kernel
theorem dX8_readMore_135 : decode cX8_readMore 135 = .ok (.getfield 13, 3) := by decide +kernel
theorem dX8_readMore_138 : decode cX8_readMore 138 = .ok (.bipush 23, 2) := by decide +kernel
theorem dX8_readMore_140 : decode cX8_readMore 140 = .ok (.aload_n 0, 1) := by decide +kernel
theorem dX8_readMore_141 : decode cX8_readMore 141 = .ok (.getfield 104, 3) := by decide +kernel
theorem dX8_readMore_144 : decode cX8_readMore 144 = .ok (.iadd, 1) := by decide +kernel
theorem dX8_readMore_145 : decode cX8_readMore 145 = .ok (.aload_n 0, 1) := by decide +kernel
theorem dX8_readMore_146 : decode cX8_readMore 146 = .ok (.iconst 0, 1) := by decide +kernel
theorem dX8_readMore_147 : decode cX8_readMore 147 = .ok (.bipush 9, 2) := by decide +kernel
theorem dX8_readMore_149 : decode cX8_readMore 149 = .ok (.iconst 0, 1) := by decide +kernel
theorem dX8_readMore_150 : decode cX8_readMore 150 = .ok (.invokevirtual 91, 3) := by decide +kernel
theorem dX8_readMore_153 : decode cX8_readMore 153 = .ok (.iastore, 1) := by decide +kernel
theorem dX8_readMore_154 : decode cX8_readMore 154 = .ok (.aload_n 0, 1) := by decide +kernel
theorem dX8_readMore_155 : decode cX8_readMore 155 = .ok (.dup, 1) := by decide +kernel
theorem dX8_readMore_156 : decode cX8_readMore 156 = .ok (.getfield 104, 3) := by decide +kernel
theorem dX8_readMore_159 : decode cX8_readMore 159 = .ok (.iconst 1, 1) := by decide +kernel
theorem dX8_readMore_160 : decode cX8_readMore 160 = .ok (.iadd, 1) := by decide +kernel
theorem dX8_readMore_161 : decode cX8_readMore 161 = .ok (.putfield 104, 3) := by decide +kernel
theorem dX8_readMore_164 : decode cX8_readMore 164 = .ok (.goto 7, 3) := by decide +kernel
theorem dX8_readMore_167 : decode cX8_readMore 167 = .ok (.aload_n 0, 1) := by decide +kernel
theorem dX8_readMore_168 : decode cX8_readMore 168 = .ok (.invokevirtual 107, 3) := by decide +kernel
theorem dX8_readMore_171 : decode cX8_readMore 171 = .ok (.return_, 1) := by decide +kernel
theorem dX8_readLine_0 : decode cX8_readLine 0 = .ok (.aload_n 0, 1) := by decide +kernel
theorem dX8_readLine_1 : decode cX8_readLine 1 = .ok (.invokevirtual 110, 3) := by decide +kernel
theorem dX8_readLine_4 : decode cX8_readLine 4 = .ok (.istore_n 1, 1) := by decide +kernel
theorem dX8_readLine_5 : decode cX8_readLine 5 = .ok (.iload_n 1, 1) := by decide +kernel
theorem dX8_readLine_6 : decode cX8_readLine 6 = .ok (.i2l, 1) := by decide +kernel
theorem dX8_readLine_7 : decode cX8_readLine 7 = .ok (.lconst 0, 1) := by decide +kernel
theorem dX8_readLine_8 : decode cX8_readLine 8 = .ok (.ldc2_w 114, 3) := by decide +kernel
theorem dX8_readLine_11 : decode cX8_readLine 11 = .ok (.invokestatic 46, 3) := by decide +kernel
theorem dX8_readLine_14 : decode cX8_readLine 14 = .ok (.ifCond .ne 9, 3) := by decide +kernel
theorem dX8_readLine_17 : decode cX8_readLine 17 = .ok (.aload_n 0, 1) := by decide +kernel
theorem dX8_readLine_18 : decode cX8_readLine 18 = .ok (.iconst 2, 1) := by decide +kernel
theorem dX8_readLine_19 : decode cX8_readLine 19 = .ok (.invokevirtual 84, 3) := by decide +kernel
theorem dX8_readLine_22 : decode cX8_readLine 22 = .ok (.return_, 1) := by decide +kernel
theorem dX8_readLine_23 : decode cX8_readLine 23 = .ok (.iload_n 1, 1) := by decide +kernel
theorem dX8_readLine_24 : decode cX8_readLine 24 = .ok (.iconst 4, 1) := by decide +kernel
theorem dX8_readLine_25 : decode cX8_readLine 25 = .ok (.if_icmp .gt 12, 3) := by decide +kernel
theorem dX8_readLine_28 : decode cX8_readLine 28 = .ok (.aload_n 0, 1) := by decide +kernel
theorem dX8_readLine_29 : decode cX8_readLine 29 = .ok (.getfield 101, 3) := by decide +kernel
theorem dX8_readLine_32 : decode cX8_readLine 32 = .ok (.bipush 6, 2) := by decide +kernel
theorem dX8_readLine_34 : decode cX8_readLine 34 = .ok (.if_icmp .eq 34, 3) := by decide +kernel
theorem dX8_readLine_37 : decode cX8_readLine 37 = .ok (.iload_n 1, 1) := by decide +kernel
theorem dX8_readLine_38 : decode cX8_readLine 38 = .ok (.bipush 6, 2) := by decide +kernel
theorem dX8_readLine_40 : decode cX8_readLine 40 = .ok (.if_icmp .ne 11, 3) := by decide +kernel
theorem dX8_readLine_43 : decode cX8_readLine 43 = .ok (.aload_n 0, 1) := by decide +kernel
theorem dX8_readLine_44 : decode cX8_readLine 44 = .ok (.getfield 104, 3) := by decide +kernel
theorem dX8_readLine_47 : decode cX8_readLine 47 = .ok (.iconst 4, 1) := by decide +kernel
theorem dX8_readLine_48 : decode cX8_readLine 48 = .ok (.if_icmp .eq 20, 3) := by decide +kernel
theorem dX8_readLine_51 : decode cX8_readLine 51 = .ok (.iload_n 1, 1) := by decide +kernel
theorem dX8_readLine_52 : decode cX8_readLine 52 = .ok (.bipush 7, 2) := by decide +kernel
theorem dX8_readLine_54 : decode cX8_readLine 54 = .ok (.if_icmp .ne 19, 3) := by decide +kernel
theorem dX8_readLine_57 : decode cX8_readLine 57 = .ok (.aload_n 0, 1) := by decide +kernel
theorem dX8_readLine_58 : decode cX8_readLine 58 = .ok (.getfield 13, 3) := by decide +kernel
theorem dX8_readLine_61 : decode cX8_readLine 61 = .ok (.bipush 35, 2) := by decide +kernel
theorem dX8_readLine_63 : decode cX8_readLine 63 = .ok (.iaload, 1) := by decide +kernel
theorem dX8_readLine_64 : decode cX8_readLine 64 = .ok (.iconst 4, 1) := by decide +kernel
theorem dX8_readLine_65 : decode cX8_readLine 65 = .ok (.if_icmp .ne 8, 3) := by decide +kernel
theorem dX8_readLine_68 : decode cX8_readLine 68 = .ok (.aload_n 0, 1) := by decide +kernel
theorem dX8_readLine_69 : decode cX8_readLine 69 = .ok (.iconst 5, 1) := by decide +kernel
theorem dX8_readLine_70 : decode cX8_readLine 70 = .ok (.invokevirtual 84, 3) := by decide +kernel
theorem dX8_readLine_73 : decode cX8_readLine 73 = .ok (.aload_n 0, 1) := by decide +kernel
theorem dX8_readLine_74 : decode cX8_readLine 74 = .ok (.invokevirtual 88, 3) := by decide +kernel
theorem dX8_readLine_77 : decode cX8_readLine 77 = .ok (.aload_n 0, 1) := by decide +kernel
theorem dX8_readLine_78 : decode cX8_readLine 78 = .ok (.getfield 54, 3) := by decide +kernel
theorem dX8_readLine_81 : decode cX8_readLine 81 = .ok (.ifCond .le 4, 3) := by decide +kernel
theorem dX8_readLine_84 : decode cX8_readLine 84 = .ok (.return_, 1) := by decide +kernel
theorem dX8_readLine_85 : decode cX8_readLine 85 = .ok (.aload_n 0, 1) := by decide +kernel
theorem dX8_readLine_86 : decode cX8_readLine 86 = .ok (.iload_n 1, 1) := by decide +kernel
theorem dX8_readLine_87 : decode cX8_readLine 87 = .ok (.invokevirtual 116, 3) := by decide +kernel
theorem dX8_readLine_90 : decode cX8_readLine 90 = .ok (.aload_n 0, 1) := by decide +kernel
theorem dX8_readLine_91 : decode cX8_readLine 91 = .ok (.getfield 54, 3) := by decide +kernel
theorem dX8_readLine_94 : decode cX8_readLine 94 = .ok (.ifCond .ne 16, 3) := by decide +kernel
theorem dX8_readLine_97 : decode cX8_readLine 97 = .ok (.aload_n 0, 1) := by decide +kernel
theorem dX8_readLine_98 : decode cX8_readLine 98 = .ok (.getfield 63, 3) := by decide +kernel
theorem dX8_readLine_101 : decode cX8_readLine 101 = .ok (.iconst 3, 1) := by decide +kernel
theorem dX8_readLine_102 : decode cX8_readLine 102 = .ok (.if_icmp .eq 8, 3) := by decide +kernel
theorem dX8_readLine_105 : decode cX8_readLine 105 = .ok (.aload_n 0, 1) := by decide +kernel
theorem dX8_readLine_106 : decode cX8_readLine 106 = .ok (.iconst 2, 1) := by decide +kernel
theorem dX8_readLine_107 : decode cX8_readLine 107 = .ok (.invokevirtual 84, 3) := by decide +kernel
theorem dX8_readLine_110 : decode cX8_readLine 110 = .ok (.aload_n 0, 1) := by decide +kernel
theorem dX8_readLine_111 : decode cX8_readLine 111 = .ok (.invokevirtual 88, 3) := by decide +kernel
theorem dX8_readLine_114 : decode cX8_readLine 114 = .ok (.return_, 1) := by decide +kernel
theorem dX8_text_0 : decode cX8_text 0 = .ok (.aload_n 0, 1) := by decide +kernel
theorem dX8_text_1 : decode cX8_text 1 = .ok (.iconst 0, 1) := by decide +kernel
theorem dX8_text_2 : decode cX8_text 2 = .ok (.putfield 54, 3) := by decide +kernel
theorem dX8_text_5 : decode cX8_text 5 = .ok (.aload_n 0, 1) := by decide +kernel
theorem dX8_text_6 : decode cX8_text 6 = .ok (.iconst 0, 1) := by decide +kernel
theorem dX8_text_7 : decode cX8_text 7 = .ok (.putfield 66, 3) := by decide +kernel
theorem dX8_text_10 : decode cX8_text 10 = .ok (.aload_n 0, 1) := by decide +kernel
theorem dX8_text_11 : decode cX8_text 11 = .ok (.iconst 0, 1) := by decide +kernel
theorem dX8_text_12 : decode cX8_text 12 = .ok (.putfield 101, 3) := by decide +kernel
theorem dX8_text_15 : decode cX8_text 15 = .ok (.aload_n 0, 1) := by decide +kernel
theorem dX8_text_16 : decode cX8_text 16 = .ok (.iconst 0, 1) := by decide +kernel
theorem dX8_text_17 : decode cX8_text 17 = .ok (.putfield 104, 3) := by decide +kernel
theorem dX8_text_20 : decode cX8_text 20 = .ok (.aload_n 0, 1) := by decide +kernel
theorem dX8_text_21 : decode cX8_text 21 = .ok (.iconst (-1), 1) := by decide +kernel
theorem dX8_text_22 : decode cX8_text 22 = .ok (.putfield 95, 3) := by decide +kernel
theorem dX8_text_25 : decode cX8_text 25 = .ok (.iconst 0, 1) := by decide +kernel
theorem dX8_text_26 : decode cX8_text 26 = .ok (.istore_n 1, 1) := by decide +kernel
theorem dX8_text_27 : decode cX8_text 27 = .ok (.iconst 0, 1) := by decide +kernel
theorem dX8_text_28 : decode cX8_text 28 = .ok (.istore_n 2, 1) := by decide +kernel
theorem dX8_text_29 : decode cX8_text 29 = .ok (.iload_n 2, 1) := by decide +kernel
theorem dX8_text_30 : decode cX8_text 30 = .ok (.bipush 37, 2) := by decide +kernel
theorem dX8_text_32 : decode cX8_text 32 = .ok (.if_icmp .ge 16, 3) := by decide +kernel
theorem dX8_text_35 : decode cX8_text 35 = .ok (.aload_n 0, 1) := by decide +kernel
theorem dX8_text_36 : decode cX8_text 36 = .ok (.getfield 13, 3) := by decide +kernel
theorem dX8_text_39 : decode cX8_text 39 = .ok (.iload_n 2, 1) := by decide +kernel
theorem dX8_text_40 : decode cX8_text 40 = .ok (.iconst 0, 1) := by decide +kernel
theorem dX8_text_41 : decode cX8_text 41 = .ok (.iastore, 1) := by decide +kernel
theorem dX8_text_42 : decode cX8_text 42 = .ok (.iinc 2 1, 3) := by decide +kernel
theorem dX8_text_45 : decode cX8_text 45 = .ok (.goto (-16), 3) := by decide +kernel
theorem dX8_text_48 : decode cX8_text 48 = .ok (.aload_n 0, 1) := by decide +kernel
theorem dX8_text_49 : decode cX8_text 49 = .ok (.invokevirtual 88, 3) := by decide +kernel
theorem dX8_text_52 : decode cX8_text 52 = .ok (.aload_n 0, 1) := by decide +kernel
theorem dX8_text_53 : decode cX8_text 53 = .ok (.getfield 54, 3) := by decide +kernel
theorem dX8_text_56 : decode cX8_text 56 = .ok (.ifCond .ne 20, 3) := by decide +kernel
theorem dX8_text_59 : decode cX8_text 59 = .ok (.aload_n 0, 1) := by decide +kernel
theorem dX8_text_60 : decode cX8_text 60 = .ok (.getfield 63, 3) := by decide +kernel
theorem dX8_text_63 : decode cX8_text 63 = .ok (.ifCond .eq 13, 3) := by decide +kernel
theorem dX8_text_66 : decode cX8_text 66 = .ok (.aload_n 0, 1) := by decide +kernel
theorem dX8_text_67 : decode cX8_text 67 = .ok (.invokevirtual 119, 3) := by decide +kernel
theorem dX8_text_70 : decode cX8_text 70 = .ok (.iinc 1 1, 3) := by decide +kernel
theorem dX8_text_73 : decode cX8_text 73 = .ok (.goto (-21), 3) := by decide +kernel
theorem dX8_text_76 : decode cX8_text 76 = .ok (.aload_n 0, 1) := by decide +kernel
theorem dX8_text_77 : decode cX8_text 77 = .ok (.getfield 54, 3) := by decide +kernel
theorem dX8_text_80 : decode cX8_text 80 = .ok (.ifCond .ne 20, 3) := by decide +kernel
theorem dX8_text_83 : decode cX8_text 83 = .ok (.aload_n 0, 1) := by decide +kernel
theorem dX8_text_84 : decode cX8_text 84 = .ok (.getfield 95, 3) := by decide +kernel
theorem dX8_text_87 : decode cX8_text 87 = .ok (.aload_n 0, 1) := by decide +kernel
theorem dX8_text_88 : decode cX8_text 88 = .ok (.getfield 101, 3) := by decide +kernel
theorem dX8_text_91 : decode cX8_text 91 = .ok (.if_icmp .lt 9, 3) := by decide +kernel
theorem dX8_text_94 : decode cX8_text 94 = .ok (.aload_n 0, 1) := by decide +kernel
theorem dX8_text_95 : decode cX8_text 95 = .ok (.bipush 6, 2) := by decide +kernel
theorem dX8_text_97 : decode cX8_text 97 = .ok (.invokevirtual 84, 3) := by decide +kernel
theorem dX8_text_100 : decode cX8_text 100 = .ok (.aload_n 0, 1) := by decide +kernel
theorem dX8_text_101 : decode cX8_text 101 = .ok (.iconst 0, 1) := by decide +kernel
theorem dX8_text_102 : decode cX8_text 102 = .ok (.putfield 50, 3) := by decide +kernel
theorem dX8_text_105 : decode cX8_text 105 = .ok (.aload_n 0, 1) := by decide +kernel
theorem dX8_text_106 : decode cX8_text 106 = .ok (.aload_n 0, 1) := by decide +kernel
theorem dX8_text_107 : decode cX8_text 107 = .ok (.getfield 54, 3) := by decide +kernel
theorem dX8_text_110 : decode cX8_text 110 = .ok (.putfield 122, 3) := by decide +kernel
theorem dX8_text_113 : decode cX8_text 113 = .ok (.aload_n 0, 1) := by decide +kernel
theorem dX8_text_114 : decode cX8_text 114 = .ok (.getfield 54, 3) := by decide +kernel
theorem dX8_text_117 : decode cX8_text 117 = .ok (.ifCond .le 11, 3) := by decide +kernel
theorem dX8_text_120 : decode cX8_text 120 = .ok (.bipush (-10), 2) := by decide +kernel
theorem dX8_text_122 : decode cX8_text 122 = .ok (.aload_n 0, 1) := by decide +kernel
theorem dX8_text_123 : decode cX8_text 123 = .ok (.getfield 60, 3) := by decide +kernel
theorem dX8_text_126 : decode cX8_text 126 = .ok (.isub, 1) := by decide +kernel
theorem dX8_text_127 : decode cX8_text 127 = .ok (.ireturn, 1) := by decide +kernel
theorem dX8_text_128 : decode cX8_text 128 = .ok (.iconst 0, 1) := by decide +kernel
theorem dX8_text_129 : decode cX8_text 129 = .ok (.istore_n 2, 1) := by decide +kernel
theorem dX8_text_130 : decode cX8_text 130 = .ok (.iload_n 2, 1) := by decide +kernel
theorem dX8_text_131 : decode cX8_text 131 = .ok (.bipush 37, 2) := by decide +kernel
theorem dX8_text_133 : decode cX8_text 133 = .ok (.if_icmp .ge 21, 3) := by decide +kernel
theorem dX8_text_136 : decode cX8_text 136 = .ok (.aload_n 0, 1) := by decide +kernel
theorem dX8_text_137 : decode cX8_text 137 = .ok (.getfield 7, 3) := by decide +kernel
theorem dX8_text_140 : decode cX8_text 140 = .ok (.iload_n 2, 1) := by decide +kernel
theorem dX8_text_141 : decode cX8_text 141 = .ok (.aload_n 0, 1) := by decide +kernel
theorem dX8_text_142 : decode cX8_text 142 = .ok (.getfield 13, 3) := by decide +kernel
theorem dX8_text_145 : decode cX8_text 145 = .ok (.iload_n 2, 1) := by decide +kernel
theorem dX8_text_146 : decode cX8_text 146 = .ok (.iaload, 1) := by decide +kernel
theorem dX8_text_147 : decode cX8_text 147 = .ok (.iastore, 1) := by decide +kernel
theorem dX8_text_148 : decode cX8_text 148 = .ok (.iinc 2 1, 3) := by decide +kernel
theorem dX8_text_151 : decode cX8_text 151 = .ok (.goto (-21), 3) := by decide +kernel
theorem dX8_text_154 : decode cX8_text 154 = .ok (.aload_n 0, 1) := by decide +kernel
theorem dX8_text_155 : decode cX8_text 155 = .ok (.aload_n 0, 1) := by decide +kernel
theorem dX8_text_156 : decode cX8_text 156 = .ok (.getfield 101, 3) := by decide +kernel
theorem dX8_text_159 : decode cX8_text 159 = .ok (.putfield 125, 3) := by decide +kernel
theorem dX8_text_162 : decode cX8_text 162 = .ok (.aload_n 0, 1) := by decide +kernel
theorem dX8_text_163 : decode cX8_text 163 = .ok (.aload_n 0, 1) := by decide +kernel
theorem dX8_text_164 : decode cX8_text 164 = .ok (.getfield 104, 3) := by decide +kernel
theorem dX8_text_167 : decode cX8_text 167 = .ok (.putfield 128, 3) := by decide +kernel
theorem dX8_text_170 : decode cX8_text 170 = .ok (.aload_n 0, 1) := by decide +kernel
theorem dX8_text_171 : decode cX8_text 171 = .ok (.iconst 0, 1) := by decide +kernel
theorem dX8_text_172 : decode cX8_text 172 = .ok (.putfield 131, 3) := by decide +kernel
theorem dX8_text_175 : decode cX8_text 175 = .ok (.aload_n 0, 1) := by decide +kernel
theorem dX8_text_176 : decode cX8_text 176 = .ok (.getfield 31, 3) := by decide +kernel
theorem dX8_text_179 : decode cX8_text 179 = .ok (.iconst 0, 1) := by decide +kernel
theorem dX8_text_180 : decode cX8_text 180 = .ok (.iconst 0, 1) := by decide +kernel
theorem dX8_text_181 : decode cX8_text 181 = .ok (.bastore, 1) := by decide +kernel
theorem dX8_text_182 : decode cX8_text 182 = .ok (.aload_n 0, 1) := by decide +kernel
theorem dX8_text_183 : decode cX8_text 183 = .ok (.getfield 31, 3) := by decide +kernel
theorem dX8_text_186 : decode cX8_text 186 = .ok (.iconst 1, 1) := by decide +kernel
theorem dX8_text_187 : decode cX8_text 187 = .ok (.iconst 0, 1) := by decide +kernel
theorem dX8_text_188 : decode cX8_text 188 = .ok (.bastore, 1) := by decide +kernel
theorem dX8_text_189 : decode cX8_text 189 = .ok (.iload_n 1, 1) := by decide +kernel
theorem dX8_text_190 : decode cX8_text 190 = .ok (.ireturn, 1) := by decide +kernel
theorem dX8_fault_0 : decode cX8_fault 0 = .ok (.aload_n 0, 1) := by decide +kernel
theorem dX8_fault_1 : decode cX8_fault 1 = .ok (.getfield 122, 3) := by decide +kernel
theorem dX8_fault_4 : decode cX8_fault 4 = .ok (.ireturn, 1) := by decide +kernel
theorem dX8_isThing_0 : decode cX8_isThing 0 = .ok (.iload_n 1, 1) := by decide +kernel
theorem dX8_isThing_1 : decode cX8_isThing 1 = .ok (.i2l, 1) := by decide +kernel
theorem dX8_isThing_2 : decode cX8_isThing 2 = .ok (.lconst 0, 1) := by decide +kernel
theorem dX8_isThing_3 : decode cX8_isThing 3 = .ok (.aload_n 0, 1) := by decide +kernel
theorem dX8_isThing_4 : decode cX8_isThing 4 = .ok (.getfield 125, 3) := by decide +kernel
theorem dX8_isThing_7 : decode cX8_isThing 7 = .ok (.iconst 1, 1) := by decide +kernel
theorem dX8_isThing_8 : decode cX8_isThing 8 = .ok (.isub, 1) := by decide +kernel
theorem dX8_isThing_9 : decode cX8_isThing 9 = .ok (.i2l, 1) := by decide +kernel
theorem dX8_isThing_10 : decode cX8_isThing 10 = .ok (.invokestatic 46, 3) := by decide +kernel
theorem dX8_isThing_13 : decode cX8_isThing 13 = .ok (.ireturn, 1) := by decide +kernel
theorem dX8_isGuest_0 : decode cX8_isGuest 0 = .ok (.iload_n 1, 1) := by decide +kernel
theorem dX8_isGuest_1 : decode cX8_isGuest 1 = .ok (.i2l, 1) := by decide +kernel
theorem dX8_isGuest_2 : decode cX8_isGuest 2 = .ok (.lconst 0, 1) := by decide +kernel
theorem dX8_isGuest_3 : decode cX8_isGuest 3 = .ok (.aload_n 0, 1) := by decide +kernel
theorem dX8_isGuest_4 : decode cX8_isGuest 4 = .ok (.getfield 128, 3) := by decide +kernel
theorem dX8_isGuest_7 : decode cX8_isGuest 7 = .ok (.iconst 1, 1) := by decide +kernel
theorem dX8_isGuest_8 : decode cX8_isGuest 8 = .ok (.isub, 1) := by decide +kernel
theorem dX8_isGuest_9 : decode cX8_isGuest 9 = .ok (.i2l, 1) := by decide +kernel
theorem dX8_isGuest_10 : decode cX8_isGuest 10 = .ok (.invokestatic 46, 3) := by decide +kernel
theorem dX8_isGuest_13 : decode cX8_isGuest 13 = .ok (.ireturn, 1) := by decide +kernel
theorem dX8_isBan_0 : decode cX8_isBan 0 = .ok (.iload_n 1, 1) := by decide +kernel
theorem dX8_isBan_1 : decode cX8_isBan 1 = .ok (.i2l, 1) := by decide +kernel
theorem dX8_isBan_2 : decode cX8_isBan 2 = .ok (.lconst 0, 1) := by decide +kernel
theorem dX8_isBan_3 : decode cX8_isBan 3 = .ok (.aload_n 0, 1) := by decide +kernel
theorem dX8_isBan_4 : decode cX8_isBan 4 = .ok (.getfield 7, 3) := by decide +kernel
theorem dX8_isBan_7 : decode cX8_isBan 7 = .ok (.bipush 35, 2) := by decide +kernel
theorem dX8_isBan_9 : decode cX8_isBan 9 = .ok (.iaload, 1) := by decide +kernel
theorem dX8_isBan_10 : decode cX8_isBan 10 = .ok (.iconst 1, 1) := by decide +kernel
theorem dX8_isBan_11 : decode cX8_isBan 11 = .ok (.isub, 1) := by decide +kernel
theorem dX8_isBan_12 : decode cX8_isBan 12 = .ok (.i2l, 1) := by decide +kernel
theorem dX8_isBan_13 : decode cX8_isBan 13 = .ok (.invokestatic 46, 3) := by decide +kernel
theorem dX8_isBan_16 : decode cX8_isBan 16 = .ok (.ireturn, 1) := by decide +kernel
theorem dX8_states_0 : decode cX8_states 0 = .ok (.iconst 1, 1) := by decide +kernel
theorem dX8_states_1 : decode cX8_states 1 = .ok (.aload_n 0, 1) := by decide +kernel
theorem dX8_states_2 : decode cX8_states 2 = .ok (.getfield 125, 3) := by decide +kernel
theorem dX8_states_5 : decode cX8_states 5 = .ok (.ishl, 1) := by decide +kernel
theorem dX8_states_6 : decode cX8_states 6 = .ok (.ireturn, 1) := by decide +kernel
theorem dX8_isState_0 : decode cX8_isState 0 = .ok (.iload_n 1, 1) := by decide +kernel
theorem dX8_isState_1 : decode cX8_isState 1 = .ok (.i2l, 1) := by decide +kernel
theorem dX8_isState_2 : decode cX8_isState 2 = .ok (.lconst 0, 1) := by decide +kernel
theorem dX8_isState_3 : decode cX8_isState 3 = .ok (.aload_n 0, 1) := by decide +kernel
theorem dX8_isState_4 : decode cX8_isState 4 = .ok (.invokevirtual 134, 3) := by decide +kernel
theorem dX8_isState_7 : decode cX8_isState 7 = .ok (.iconst 1, 1) := by decide +kernel
theorem dX8_isState_8 : decode cX8_isState 8 = .ok (.isub, 1) := by decide +kernel
theorem dX8_isState_9 : decode cX8_isState 9 = .ok (.i2l, 1) := by decide +kernel
theorem dX8_isState_10 : decode cX8_isState 10 = .ok (.invokestatic 46, 3) := by decide +kernel
theorem dX8_isState_13 : decode cX8_isState 13 = .ok (.ireturn, 1) := by decide +kernel
theorem dX8_firstOf_0 : decode cX8_firstOf 0 = .ok (.aload_n 0, 1) := by decide +kernel
theorem dX8_firstOf_1 : decode cX8_firstOf 1 = .ok (.getfield 7, 3) := by decide +kernel
theorem dX8_firstOf_4 : decode cX8_firstOf 4 = .ok (.bipush 6, 2) := by decide +kernel
theorem dX8_firstOf_6 : decode cX8_firstOf 6 = .ok (.iload_n 1, 1) := by decide +kernel
theorem dX8_firstOf_7 : decode cX8_firstOf 7 = .ok (.iadd, 1) := by decide +kernel
theorem dX8_firstOf_8 : decode cX8_firstOf 8 = .ok (.iaload, 1) := by decide +kernel
theorem dX8_firstOf_9 : decode cX8_firstOf 9 = .ok (.iload_n 1, 1) := by decide +kernel
theorem dX8_firstOf_10 : decode cX8_firstOf 10 = .ok (.iadd, 1) := by decide +kernel
theorem dX8_firstOf_11 : decode cX8_firstOf 11 = .ok (.ireturn, 1) := by decide +kernel
theorem dX8_secondOf_0 : decode cX8_secondOf 0 = .ok (.aload_n 0, 1) := by decide +kernel
theorem dX8_secondOf_1 : decode cX8_secondOf 1 = .ok (.getfield 7, 3) := by decide +kernel
theorem dX8_secondOf_4 : decode cX8_secondOf 4 = .ok (.bipush 12, 2) := by decide +kernel
theorem dX8_secondOf_6 : decode cX8_secondOf 6 = .ok (.iload_n 1, 1) := by decide +kernel
theorem dX8_secondOf_7 : decode cX8_secondOf 7 = .ok (.iadd, 1) := by decide +kernel
theorem dX8_secondOf_8 : decode cX8_secondOf 8 = .ok (.iaload, 1) := by decide +kernel
theorem dX8_secondOf_9 : decode cX8_secondOf 9 = .ok (.iload_n 1, 1) := by decide +kernel
theorem dX8_secondOf_10 : decode cX8_secondOf 10 = .ok (.iadd, 1) := by decide +kernel
theorem dX8_secondOf_11 : decode cX8_secondOf 11 = .ok (.ireturn, 1) := by decide +kernel
theorem dX8_willBe_0 : decode cX8_willBe 0 = .ok (.iload_n 1, 1) := by decide +kernel
theorem dX8_willBe_1 : decode cX8_willBe 1 = .ok (.aload_n 0, 1) := by decide +kernel
theorem dX8_willBe_2 : decode cX8_willBe 2 = .ok (.iload_n 2, 1) := by decide +kernel
theorem dX8_willBe_3 : decode cX8_willBe 3 = .ok (.invokevirtual 137, 3) := by decide +kernel
theorem dX8_willBe_6 : decode cX8_willBe 6 = .ok (.ishr, 1) := by decide +kernel
theorem dX8_willBe_7 : decode cX8_willBe 7 = .ok (.iconst 1, 1) := by decide +kernel
theorem dX8_willBe_8 : decode cX8_willBe 8 = .ok (.iand, 1) := by decide +kernel
theorem dX8_willBe_9 : decode cX8_willBe 9 = .ok (.iconst 1, 1) := by decide +kernel
theorem dX8_willBe_10 : decode cX8_willBe 10 = .ok (.if_icmp .ne 7, 3) := by decide +kernel
theorem dX8_willBe_13 : decode cX8_willBe 13 = .ok (.iconst 1, 1) := by decide +kernel
theorem dX8_willBe_14 : decode cX8_willBe 14 = .ok (.goto 4, 3) := by decide +kernel
theorem dX8_willBe_17 : decode cX8_willBe 17 = .ok (.iconst 0, 1) := by decide +kernel
theorem dX8_willBe_18 : decode cX8_willBe 18 = .ok (.istore_n 3, 1) := by decide +kernel
theorem dX8_willBe_19 : decode cX8_willBe 19 = .ok (.iload_n 1, 1) := by decide +kernel
theorem dX8_willBe_20 : decode cX8_willBe 20 = .ok (.aload_n 0, 1) := by decide +kernel
theorem dX8_willBe_21 : decode cX8_willBe 21 = .ok (.iload_n 2, 1) := by decide +kernel
theorem dX8_willBe_22 : decode cX8_willBe 22 = .ok (.invokevirtual 140, 3) := by decide +kernel
theorem dX8_willBe_25 : decode cX8_willBe 25 = .ok (.ishr, 1) := by decide +kernel
theorem dX8_willBe_26 : decode cX8_willBe 26 = .ok (.iconst 1, 1) := by decide +kernel
theorem dX8_willBe_27 : decode cX8_willBe 27 = .ok (.iand, 1) := by decide +kernel
theorem dX8_willBe_28 : decode cX8_willBe 28 = .ok (.iconst 1, 1) := by decide +kernel
theorem dX8_willBe_29 : decode cX8_willBe 29 = .ok (.if_icmp .ne 7, 3) := by decide +kernel
theorem dX8_willBe_32 : decode cX8_willBe 32 = .ok (.iconst 1, 1) := by decide +kernel
theorem dX8_willBe_33 : decode cX8_willBe 33 = .ok (.goto 4, 3) := by decide +kernel
theorem dX8_willBe_36 : decode cX8_willBe 36 = .ok (.iconst 0, 1) := by decide +kernel
theorem dX8_willBe_37 : decode cX8_willBe 37 = .ok (.istore 4, 2) := by decide +kernel
theorem dX8_willBe_39 : decode cX8_willBe 39 = .ok (.aload_n 0, 1) := by decide +kernel
theorem dX8_willBe_40 : decode cX8_willBe 40 = .ok (.getfield 7, 3) := by decide +kernel
theorem dX8_willBe_43 : decode cX8_willBe 43 = .ok (.iload_n 2, 1) := by decide +kernel
theorem dX8_willBe_44 : decode cX8_willBe 44 = .ok (.iaload, 1) := by decide +kernel
theorem dX8_willBe_45 : decode cX8_willBe 45 = .ok (.tableswitch 73 0 3 #[31, 46, 48, 58], 31) := by decide +kernel
theorem dX8_willBe_76 : decode cX8_willBe 76 = .ok (.iload_n 1, 1) := by decide +kernel
theorem dX8_willBe_77 : decode cX8_willBe 77 = .ok (.iload_n 2, 1) := by decide +kernel
theorem dX8_willBe_78 : decode cX8_willBe 78 = .ok (.ishr, 1) := by decide +kernel
theorem dX8_willBe_79 : decode cX8_willBe 79 = .ok (.iconst 1, 1) := by decide +kernel
theorem dX8_willBe_80 : decode cX8_willBe 80 = .ok (.iand, 1) := by decide +kernel
theorem dX8_willBe_81 : decode cX8_willBe 81 = .ok (.iconst 1, 1) := by decide +kernel
theorem dX8_willBe_82 : decode cX8_willBe 82 = .ok (.if_icmp .ne 7, 3) := by decide +kernel
theorem dX8_willBe_85 : decode cX8_willBe 85 = .ok (.iconst 1, 1) := by decide +kernel
theorem dX8_willBe_86 : decode cX8_willBe 86 = .ok (.goto 4, 3) := by decide +kernel
theorem dX8_willBe_89 : decode cX8_willBe 89 = .ok (.iconst 0, 1) := by decide +kernel
theorem dX8_willBe_90 : decode cX8_willBe 90 = .ok (.ireturn, 1) := by decide +kernel
theorem dX8_willBe_91 : decode cX8_willBe 91 = .ok (.iload_n 3, 1) := by decide +kernel
theorem dX8_willBe_92 : decode cX8_willBe 92 = .ok (.ireturn, 1) := by decide +kernel
theorem dX8_willBe_93 : decode cX8_willBe 93 = .ok (.iload_n 3, 1) := by decide +kernel
theorem dX8_willBe_94 : decode cX8_willBe 94 = .ok (.ifCond .ne 7, 3) := by decide +kernel
theorem dX8_willBe_97 : decode cX8_willBe 97 = .ok (.iconst 1, 1) := by decide +kernel
theorem dX8_willBe_98 : decode cX8_willBe 98 = .ok (.goto 4, 3) := by decide +kernel
theorem dX8_willBe_101 : decode cX8_willBe 101 = .ok (.iconst 0, 1) := by decide +kernel
theorem dX8_willBe_102 : decode cX8_willBe 102 = .ok (.ireturn, 1) := by decide +kernel
theorem dX8_willBe_103 : decode cX8_willBe 103 = .ok (.iload_n 3, 1) := by decide +kernel
theorem dX8_willBe_104 : decode cX8_willBe 104 = .ok (.ifCond .eq 12, 3) := by decide +kernel
theorem dX8_willBe_107 : decode cX8_willBe 107 = .ok (.iload 4, 2) := by decide +kernel
theorem dX8_willBe_109 : decode cX8_willBe 109 = .ok (.ifCond .ne 7, 3) := by decide +kernel
theorem dX8_willBe_112 : decode cX8_willBe 112 = .ok (.iconst 1, 1) := by decide +kernel
theorem dX8_willBe_113 : decode cX8_willBe 113 = .ok (.goto 4, 3) := by decide +kernel
theorem dX8_willBe_116 : decode cX8_willBe 116 = .ok (.iconst 0, 1) := by decide +kernel
theorem dX8_willBe_117 : decode cX8_willBe 117 = .ok (.ireturn, 1) := by decide +kernel
theorem dX8_willBe_118 : decode cX8_willBe 118 = .ok (.iload_n 3, 1) := by decide +kernel
theorem dX8_willBe_119 : decode cX8_willBe 119 = .ok (.ifCond .ne 8, 3) := by decide +kernel
theorem dX8_willBe_122 : decode cX8_willBe 122 = .ok (.iload 4, 2) := by decide +kernel
theorem dX8_willBe_124 : decode cX8_willBe 124 = .ok (.ifCond .eq 7, 3) := by decide +kernel
theorem dX8_willBe_127 : decode cX8_willBe 127 = .ok (.iconst 1, 1) := by decide +kernel
theorem dX8_willBe_128 : decode cX8_willBe 128 = .ok (.goto 4, 3) := by decide +kernel
theorem dX8_willBe_131 : decode cX8_willBe 131 = .ok (.iconst 0, 1) := by decide +kernel
theorem dX8_willBe_132 : decode cX8_willBe 132 = .ok (.ireturn, 1) := by decide +kernel
theorem dX8_nextOf_0 : decode cX8_nextOf 0 = .ok (.iconst 0, 1) := by decide +kernel
theorem dX8_nextOf_1 : decode cX8_nextOf 1 = .ok (.istore_n 2, 1) := by decide +kernel
theorem dX8_nextOf_2 : decode cX8_nextOf 2 = .ok (.iconst 0, 1) := by decide +kernel
theorem dX8_nextOf_3 : decode cX8_nextOf 3 = .ok (.istore_n 3, 1) := by decide +kernel
theorem dX8_nextOf_4 : decode cX8_nextOf 4 = .ok (.iload_n 3, 1) := by decide +kernel
theorem dX8_nextOf_5 : decode cX8_nextOf 5 = .ok (.aload_n 0, 1) := by decide +kernel
theorem dX8_nextOf_6 : decode cX8_nextOf 6 = .ok (.getfield 125, 3) := by decide +kernel
theorem dX8_nextOf_9 : decode cX8_nextOf 9 = .ok (.if_icmp .ge 28, 3) := by decide +kernel
theorem dX8_nextOf_12 : decode cX8_nextOf 12 = .ok (.iload_n 2, 1) := by decide +kernel
theorem dX8_nextOf_13 : decode cX8_nextOf 13 = .ok (.aload_n 0, 1) := by decide +kernel
theorem dX8_nextOf_14 : decode cX8_nextOf 14 = .ok (.iload_n 1, 1) := by decide +kernel
theorem dX8_nextOf_15 : decode cX8_nextOf 15 = .ok (.iload_n 3, 1) := by decide +kernel
theorem dX8_nextOf_16 : decode cX8_nextOf 16 = .ok (.invokevirtual 143, 3) := by decide +kernel
theorem dX8_nextOf_19 : decode cX8_nextOf 19 = .ok (.ifCond .eq 9, 3) := by decide +kernel
theorem dX8_nextOf_22 : decode cX8_nextOf 22 = .ok (.iconst 1, 1) := by decide +kernel
theorem dX8_nextOf_23 : decode cX8_nextOf 23 = .ok (.iload_n 3, 1) := by decide +kernel
theorem dX8_nextOf_24 : decode cX8_nextOf 24 = .ok (.ishl, 1) := by decide +kernel
theorem dX8_nextOf_25 : decode cX8_nextOf 25 = .ok (.goto 4, 3) := by decide +kernel
theorem dX8_nextOf_28 : decode cX8_nextOf 28 = .ok (.iconst 0, 1) := by decide +kernel
theorem dX8_nextOf_29 : decode cX8_nextOf 29 = .ok (.ior, 1) := by decide +kernel
theorem dX8_nextOf_30 : decode cX8_nextOf 30 = .ok (.istore_n 2, 1) := by decide +kernel
theorem dX8_nextOf_31 : decode cX8_nextOf 31 = .ok (.iinc 3 1, 3) := by decide +kernel
theorem dX8_nextOf_34 : decode cX8_nextOf 34 = .ok (.goto (-30), 3) := by decide +kernel
theorem dX8_nextOf_37 : decode cX8_nextOf 37 = .ok (.iload_n 2, 1) := by decide +kernel
theorem dX8_nextOf_38 : decode cX8_nextOf 38 = .ok (.ireturn, 1) := by decide +kernel
theorem dX8_afterYears_0 : decode cX8_afterYears 0 = .ok (.iload_n 1, 1) := by decide +kernel
theorem dX8_afterYears_1 : decode cX8_afterYears 1 = .ok (.istore_n 3, 1) := by decide +kernel
theorem dX8_afterYears_2 : decode cX8_afterYears 2 = .ok (.iconst 0, 1) := by decide +kernel
theorem dX8_afterYears_3 : decode cX8_afterYears 3 = .ok (.istore 4, 2) := by decide +kernel
theorem dX8_afterYears_5 : decode cX8_afterYears 5 = .ok (.iload 4, 2) := by decide +kernel
theorem dX8_afterYears_7 : decode cX8_afterYears 7 = .ok (.iload_n 2, 1) := by decide +kernel
theorem dX8_afterYears_8 : decode cX8_afterYears 8 = .ok (.if_icmp .ge 15, 3) := by decide +kernel
theorem dX8_afterYears_11 : decode cX8_afterYears 11 = .ok (.aload_n 0, 1) := by decide +kernel
theorem dX8_afterYears_12 : decode cX8_afterYears 12 = .ok (.iload_n 3, 1) := by decide +kernel
theorem dX8_afterYears_13 : decode cX8_afterYears 13 = .ok (.invokevirtual 147, 3) := by decide +kernel
theorem dX8_afterYears_16 : decode cX8_afterYears 16 = .ok (.istore_n 3, 1) := by decide +kernel
theorem dX8_afterYears_17 : decode cX8_afterYears 17 = .ok (.iinc 4 1, 3) := by decide +kernel
theorem dX8_afterYears_20 : decode cX8_afterYears 20 = .ok (.goto (-15), 3) := by decide +kernel
theorem dX8_afterYears_23 : decode cX8_afterYears 23 = .ok (.iload_n 3, 1) := by decide +kernel
theorem dX8_afterYears_24 : decode cX8_afterYears 24 = .ok (.ireturn, 1) := by decide +kernel
theorem dX8_isBroken_0 : decode cX8_isBroken 0 = .ok (.iload_n 1, 1) := by decide +kernel
theorem dX8_isBroken_1 : decode cX8_isBroken 1 = .ok (.aload_n 0, 1) := by decide +kernel
theorem dX8_isBroken_2 : decode cX8_isBroken 2 = .ok (.getfield 7, 3) := by decide +kernel
theorem dX8_isBroken_5 : decode cX8_isBroken 5 = .ok (.bipush 27, 2) := by decide +kernel
theorem dX8_isBroken_7 : decode cX8_isBroken 7 = .ok (.iconst 2, 1) := by decide +kernel
theorem dX8_isBroken_8 : decode cX8_isBroken 8 = .ok (.iload_n 2, 1) := by decide +kernel
theorem dX8_isBroken_9 : decode cX8_isBroken 9 = .ok (.imul, 1) := by decide +kernel
theorem dX8_isBroken_10 : decode cX8_isBroken 10 = .ok (.iadd, 1) := by decide +kernel
theorem dX8_isBroken_11 : decode cX8_isBroken 11 = .ok (.iaload, 1) := by decide +kernel
theorem dX8_isBroken_12 : decode cX8_isBroken 12 = .ok (.ishr, 1) := by decide +kernel
theorem dX8_isBroken_13 : decode cX8_isBroken 13 = .ok (.iconst 1, 1) := by decide +kernel
theorem dX8_isBroken_14 : decode cX8_isBroken 14 = .ok (.iand, 1) := by decide +kernel
theorem dX8_isBroken_15 : decode cX8_isBroken 15 = .ok (.iconst 1, 1) := by decide +kernel
theorem dX8_isBroken_16 : decode cX8_isBroken 16 = .ok (.if_icmp .ne 28, 3) := by decide +kernel
theorem dX8_isBroken_19 : decode cX8_isBroken 19 = .ok (.iload_n 1, 1) := by decide +kernel
theorem dX8_isBroken_20 : decode cX8_isBroken 20 = .ok (.aload_n 0, 1) := by decide +kernel
theorem dX8_isBroken_21 : decode cX8_isBroken 21 = .ok (.getfield 7, 3) := by decide +kernel
theorem dX8_isBroken_24 : decode cX8_isBroken 24 = .ok (.bipush 27, 2) := by decide +kernel
theorem dX8_isBroken_26 : decode cX8_isBroken 26 = .ok (.iconst 2, 1) := by decide +kernel
theorem dX8_isBroken_27 : decode cX8_isBroken 27 = .ok (.iload_n 2, 1) := by decide +kernel
theorem dX8_isBroken_28 : decode cX8_isBroken 28 = .ok (.imul, 1) := by decide +kernel
theorem dX8_isBroken_29 : decode cX8_isBroken 29 = .ok (.iadd, 1) := by decide +kernel
theorem dX8_isBroken_30 : decode cX8_isBroken 30 = .ok (.iconst 1, 1) := by decide +kernel
theorem dX8_isBroken_31 : decode cX8_isBroken 31 = .ok (.iadd, 1) := by decide +kernel
theorem dX8_isBroken_32 : decode cX8_isBroken 32 = .ok (.iaload, 1) := by decide +kernel
theorem dX8_isBroken_33 : decode cX8_isBroken 33 = .ok (.ishr, 1) := by decide +kernel
theorem dX8_isBroken_34 : decode cX8_isBroken 34 = .ok (.iconst 1, 1) := by decide +kernel
theorem dX8_isBroken_35 : decode cX8_isBroken 35 = .ok (.iand, 1) := by decide +kernel
theorem dX8_isBroken_36 : decode cX8_isBroken 36 = .ok (.iconst 1, 1) := by decide +kernel
theorem dX8_isBroken_37 : decode cX8_isBroken 37 = .ok (.if_icmp .ne 7, 3) := by decide +kernel
theorem dX8_isBroken_40 : decode cX8_isBroken 40 = .ok (.iconst 1, 1) := by decide +kernel
theorem dX8_isBroken_41 : decode cX8_isBroken 41 = .ok (.goto 4, 3) := by decide +kernel
theorem dX8_isBroken_44 : decode cX8_isBroken 44 = .ok (.iconst 0, 1) := by decide +kernel
theorem dX8_isBroken_45 : decode cX8_isBroken 45 = .ok (.ireturn, 1) := by decide +kernel
theorem dX8_isAllowed_0 : decode cX8_isAllowed 0 = .ok (.iconst 1, 1) := by decide +kernel
theorem dX8_isAllowed_1 : decode cX8_isAllowed 1 = .ok (.istore_n 2, 1) := by decide +kernel
theorem dX8_isAllowed_2 : decode cX8_isAllowed 2 = .ok (.iconst 0, 1) := by decide +kernel
theorem dX8_isAllowed_3 : decode cX8_isAllowed 3 = .ok (.istore_n 3, 1) := by decide +kernel
theorem dX8_isAllowed_4 : decode cX8_isAllowed 4 = .ok (.iload_n 3, 1) := by decide +kernel
theorem dX8_isAllowed_5 : decode cX8_isAllowed 5 = .ok (.aload_n 0, 1) := by decide +kernel
theorem dX8_isAllowed_6 : decode cX8_isAllowed 6 = .ok (.getfield 7, 3) := by decide +kernel
theorem dX8_isAllowed_9 : decode cX8_isAllowed 9 = .ok (.bipush 35, 2) := by decide +kernel
theorem dX8_isAllowed_11 : decode cX8_isAllowed 11 = .ok (.iaload, 1) := by decide +kernel
theorem dX8_isAllowed_12 : decode cX8_isAllowed 12 = .ok (.if_icmp .ge 28, 3) := by decide +kernel
theorem dX8_isAllowed_15 : decode cX8_isAllowed 15 = .ok (.iload_n 2, 1) := by decide +kernel
theorem dX8_isAllowed_16 : decode cX8_isAllowed 16 = .ok (.ifCond .eq 16, 3) := by decide +kernel
theorem dX8_isAllowed_19 : decode cX8_isAllowed 19 = .ok (.aload_n 0, 1) := by decide +kernel
theorem dX8_isAllowed_20 : decode cX8_isAllowed 20 = .ok (.iload_n 1, 1) := by decide +kernel
theorem dX8_isAllowed_21 : decode cX8_isAllowed 21 = .ok (.iload_n 3, 1) := by decide +kernel
theorem dX8_isAllowed_22 : decode cX8_isAllowed 22 = .ok (.invokevirtual 150, 3) := by decide +kernel
theorem dX8_isAllowed_25 : decode cX8_isAllowed 25 = .ok (.ifCond .ne 7, 3) := by decide +kernel
theorem dX8_isAllowed_28 : decode cX8_isAllowed 28 = .ok (.iconst 1, 1) := by decide +kernel
theorem dX8_isAllowed_29 : decode cX8_isAllowed 29 = .ok (.goto 4, 3) := by decide +kernel
theorem dX8_isAllowed_32 : decode cX8_isAllowed 32 = .ok (.iconst 0, 1) := by decide +kernel
theorem dX8_isAllowed_33 : decode cX8_isAllowed 33 = .ok (.istore_n 2, 1) := by decide +kernel
theorem dX8_isAllowed_34 : decode cX8_isAllowed 34 = .ok (.iinc 3 1, 3) := by decide +kernel
theorem dX8_isAllowed_37 : decode cX8_isAllowed 37 = .ok (.goto (-33), 3) := by decide +kernel
theorem dX8_isAllowed_40 : decode cX8_isAllowed 40 = .ok (.iload_n 2, 1) := by decide +kernel
theorem dX8_isAllowed_41 : decode cX8_isAllowed 41 = .ok (.ireturn, 1) := by decide +kernel
theorem dX8_agrees_0 : decode cX8_agrees 0 = .ok (.aload_n 0, 1) := by decide +kernel
theorem dX8_agrees_1 : decode cX8_agrees 1 = .ok (.iload_n 1, 1) := by decide +kernel
theorem dX8_agrees_2 : decode cX8_agrees 2 = .ok (.invokevirtual 147, 3) := by decide +kernel
theorem dX8_agrees_5 : decode cX8_agrees 5 = .ok (.iload_n 1, 1) := by decide +kernel
theorem dX8_agrees_6 : decode cX8_agrees 6 = .ok (.if_icmp .ne 7, 3) := by decide +kernel
theorem dX8_agrees_9 : decode cX8_agrees 9 = .ok (.iconst 1, 1) := by decide +kernel
theorem dX8_agrees_10 : decode cX8_agrees 10 = .ok (.goto 4, 3) := by decide +kernel
theorem dX8_agrees_13 : decode cX8_agrees 13 = .ok (.iconst 0, 1) := by decide +kernel
theorem dX8_agrees_14 : decode cX8_agrees 14 = .ok (.ireturn, 1) := by decide +kernel
theorem dX8_rule_0 : decode cX8_rule 0 = .ok (.aload_n 0, 1) := by decide +kernel
theorem dX8_rule_1 : decode cX8_rule 1 = .ok (.getfield 7, 3) := by decide +kernel
theorem dX8_rule_4 : decode cX8_rule 4 = .ok (.bipush 18, 2) := by decide +kernel
theorem dX8_rule_6 : decode cX8_rule 6 = .ok (.iaload, 1) := by decide +kernel
theorem dX8_rule_7 : decode cX8_rule 7 = .ok (.istore_n 2, 1) := by decide +kernel
theorem dX8_rule_8 : decode cX8_rule 8 = .ok (.iload_n 1, 1) := by decide +kernel
theorem dX8_rule_9 : decode cX8_rule 9 = .ok (.tableswitch 99 0 6 #[43, 48, 53, 61, 69, 71, 85], 43) := by decide +kernel
theorem dX8_rule_52 : decode cX8_rule 52 = .ok (.aload_n 0, 1) := by decide +kernel
theorem dX8_rule_53 : decode cX8_rule 53 = .ok (.getfield 125, 3) := by decide +kernel
theorem dX8_rule_56 : decode cX8_rule 56 = .ok (.ireturn, 1) := by decide +kernel
theorem dX8_rule_57 : decode cX8_rule 57 = .ok (.aload_n 0, 1) := by decide +kernel
theorem dX8_rule_58 : decode cX8_rule 58 = .ok (.getfield 128, 3) := by decide +kernel
theorem dX8_rule_61 : decode cX8_rule 61 = .ok (.ireturn, 1) := by decide +kernel
theorem dX8_rule_62 : decode cX8_rule 62 = .ok (.aload_n 0, 1) := by decide +kernel
theorem dX8_rule_63 : decode cX8_rule 63 = .ok (.getfield 7, 3) := by decide +kernel
theorem dX8_rule_66 : decode cX8_rule 66 = .ok (.bipush 35, 2) := by decide +kernel
theorem dX8_rule_68 : decode cX8_rule 68 = .ok (.iaload, 1) := by decide +kernel
theorem dX8_rule_69 : decode cX8_rule 69 = .ok (.ireturn, 1) := by decide +kernel
theorem dX8_rule_70 : decode cX8_rule 70 = .ok (.aload_n 0, 1) := by decide +kernel
theorem dX8_rule_71 : decode cX8_rule 71 = .ok (.getfield 7, 3) := by decide +kernel
theorem dX8_rule_74 : decode cX8_rule 74 = .ok (.bipush 36, 2) := by decide +kernel
theorem dX8_rule_76 : decode cX8_rule 76 = .ok (.iaload, 1) := by decide +kernel
theorem dX8_rule_77 : decode cX8_rule 77 = .ok (.ireturn, 1) := by decide +kernel
theorem dX8_rule_78 : decode cX8_rule 78 = .ok (.iload_n 2, 1) := by decide +kernel
theorem dX8_rule_79 : decode cX8_rule 79 = .ok (.ireturn, 1) := by decide +kernel
theorem dX8_rule_80 : decode cX8_rule 80 = .ok (.aload_n 0, 1) := by decide +kernel
theorem dX8_rule_81 : decode cX8_rule 81 = .ok (.iload_n 2, 1) := by decide +kernel
theorem dX8_rule_82 : decode cX8_rule 82 = .ok (.invokevirtual 153, 3) := by decide +kernel
theorem dX8_rule_85 : decode cX8_rule 85 = .ok (.ifCond .eq 7, 3) := by decide +kernel
theorem dX8_rule_88 : decode cX8_rule 88 = .ok (.iconst 1, 1) := by decide +kernel
theorem dX8_rule_89 : decode cX8_rule 89 = .ok (.goto 4, 3) := by decide +kernel
theorem dX8_rule_92 : decode cX8_rule 92 = .ok (.iconst 0, 1) := by decide +kernel
theorem dX8_rule_93 : decode cX8_rule 93 = .ok (.ireturn, 1) := by decide +kernel
theorem dX8_rule_94 : decode cX8_rule 94 = .ok (.aload_n 0, 1) := by decide +kernel
theorem dX8_rule_95 : decode cX8_rule 95 = .ok (.iload_n 2, 1) := by decide +kernel
theorem dX8_rule_96 : decode cX8_rule 96 = .ok (.invokevirtual 157, 3) := by decide +kernel
theorem dX8_rule_99 : decode cX8_rule 99 = .ok (.ifCond .eq 7, 3) := by decide +kernel
theorem dX8_rule_102 : decode cX8_rule 102 = .ok (.iconst 1, 1) := by decide +kernel
theorem dX8_rule_103 : decode cX8_rule 103 = .ok (.goto 4, 3) := by decide +kernel
theorem dX8_rule_106 : decode cX8_rule 106 = .ok (.iconst 0, 1) := by decide +kernel
theorem dX8_rule_107 : decode cX8_rule 107 = .ok (.ireturn, 1) := by decide +kernel
theorem dX8_rule_108 : decode cX8_rule 108 = .ok (.iconst (-1), 1) := by decide +kernel
theorem dX8_rule_109 : decode cX8_rule 109 = .ok (.ireturn, 1) := by decide +kernel
theorem dX8_thing_0 : decode cX8_thing 0 = .ok (.aload_n 0, 1) := by decide +kernel
theorem dX8_thing_1 : decode cX8_thing 1 = .ok (.iload_n 1, 1) := by decide +kernel
theorem dX8_thing_2 : decode cX8_thing 2 = .ok (.invokevirtual 160, 3) := by decide +kernel
theorem dX8_thing_5 : decode cX8_thing 5 = .ok (.ifCond .ne 5, 3) := by decide +kernel
theorem dX8_thing_8 : decode cX8_thing 8 = .ok (.iconst (-1), 1) := by decide +kernel
theorem dX8_thing_9 : decode cX8_thing 9 = .ok (.ireturn, 1) := by decide +kernel
theorem dX8_thing_10 : decode cX8_thing 10 = .ok (.iload_n 2, 1) := by decide +kernel
theorem dX8_thing_11 : decode cX8_thing 11 = .ok (.tableswitch 85 0 4 #[33, 40, 46, 52, 64], 33) := by decide +kernel
theorem dX8_thing_44 : decode cX8_thing 44 = .ok (.aload_n 0, 1) := by decide +kernel
theorem dX8_thing_45 : decode cX8_thing 45 = .ok (.getfield 7, 3) := by decide +kernel
theorem dX8_thing_48 : decode cX8_thing 48 = .ok (.iload_n 1, 1) := by decide +kernel
theorem dX8_thing_49 : decode cX8_thing 49 = .ok (.iaload, 1) := by decide +kernel
theorem dX8_thing_50 : decode cX8_thing 50 = .ok (.ireturn, 1) := by decide +kernel
theorem dX8_thing_51 : decode cX8_thing 51 = .ok (.aload_n 0, 1) := by decide +kernel
theorem dX8_thing_52 : decode cX8_thing 52 = .ok (.iload_n 1, 1) := by decide +kernel
theorem dX8_thing_53 : decode cX8_thing 53 = .ok (.invokevirtual 137, 3) := by decide +kernel
theorem dX8_thing_56 : decode cX8_thing 56 = .ok (.ireturn, 1) := by decide +kernel
theorem dX8_thing_57 : decode cX8_thing 57 = .ok (.aload_n 0, 1) := by decide +kernel
theorem dX8_thing_58 : decode cX8_thing 58 = .ok (.iload_n 1, 1) := by decide +kernel
theorem dX8_thing_59 : decode cX8_thing 59 = .ok (.invokevirtual 140, 3) := by decide +kernel
theorem dX8_thing_62 : decode cX8_thing 62 = .ok (.ireturn, 1) := by decide +kernel
theorem dX8_thing_63 : decode cX8_thing 63 = .ok (.aload_n 0, 1) := by decide +kernel
theorem dX8_thing_64 : decode cX8_thing 64 = .ok (.getfield 7, 3) := by decide +kernel
theorem dX8_thing_67 : decode cX8_thing 67 = .ok (.bipush 18, 2) := by decide +kernel
theorem dX8_thing_69 : decode cX8_thing 69 = .ok (.iaload, 1) := by decide +kernel
theorem dX8_thing_70 : decode cX8_thing 70 = .ok (.iload_n 1, 1) := by decide +kernel
theorem dX8_thing_71 : decode cX8_thing 71 = .ok (.ishr, 1) := by decide +kernel
theorem dX8_thing_72 : decode cX8_thing 72 = .ok (.iconst 1, 1) := by decide +kernel
theorem dX8_thing_73 : decode cX8_thing 73 = .ok (.iand, 1) := by decide +kernel
theorem dX8_thing_74 : decode cX8_thing 74 = .ok (.ireturn, 1) := by decide +kernel
theorem dX8_thing_75 : decode cX8_thing 75 = .ok (.aload_n 0, 1) := by decide +kernel
theorem dX8_thing_76 : decode cX8_thing 76 = .ok (.aload_n 0, 1) := by decide +kernel
theorem dX8_thing_77 : decode cX8_thing 77 = .ok (.getfield 7, 3) := by decide +kernel
theorem dX8_thing_80 : decode cX8_thing 80 = .ok (.bipush 18, 2) := by decide +kernel
theorem dX8_thing_82 : decode cX8_thing 82 = .ok (.iaload, 1) := by decide +kernel
theorem dX8_thing_83 : decode cX8_thing 83 = .ok (.iload_n 1, 1) := by decide +kernel
theorem dX8_thing_84 : decode cX8_thing 84 = .ok (.invokevirtual 143, 3) := by decide +kernel
theorem dX8_thing_87 : decode cX8_thing 87 = .ok (.ifCond .eq 7, 3) := by decide +kernel
theorem dX8_thing_90 : decode cX8_thing 90 = .ok (.iconst 1, 1) := by decide +kernel
theorem dX8_thing_91 : decode cX8_thing 91 = .ok (.goto 4, 3) := by decide +kernel
theorem dX8_thing_94 : decode cX8_thing 94 = .ok (.iconst 0, 1) := by decide +kernel
theorem dX8_thing_95 : decode cX8_thing 95 = .ok (.ireturn, 1) := by decide +kernel
theorem dX8_thing_96 : decode cX8_thing 96 = .ok (.iconst (-1), 1) := by decide +kernel
theorem dX8_thing_97 : decode cX8_thing 97 = .ok (.ireturn, 1) := by decide +kernel
theorem dX8_guest_0 : decode cX8_guest 0 = .ok (.aload_n 0, 1) := by decide +kernel
theorem dX8_guest_1 : decode cX8_guest 1 = .ok (.iload_n 1, 1) := by decide +kernel
theorem dX8_guest_2 : decode cX8_guest 2 = .ok (.invokevirtual 163, 3) := by decide +kernel
theorem dX8_guest_5 : decode cX8_guest 5 = .ok (.ifCond .eq 29, 3) := by decide +kernel
theorem dX8_guest_8 : decode cX8_guest 8 = .ok (.iload_n 2, 1) := by decide +kernel
theorem dX8_guest_9 : decode cX8_guest 9 = .ok (.i2l, 1) := by decide +kernel
theorem dX8_guest_10 : decode cX8_guest 10 = .ok (.lconst 0, 1) := by decide +kernel
theorem dX8_guest_11 : decode cX8_guest 11 = .ok (.lconst 1, 1) := by decide +kernel
theorem dX8_guest_12 : decode cX8_guest 12 = .ok (.invokestatic 46, 3) := by decide +kernel
theorem dX8_guest_15 : decode cX8_guest 15 = .ok (.ifCond .eq 19, 3) := by decide +kernel
theorem dX8_guest_18 : decode cX8_guest 18 = .ok (.aload_n 0, 1) := by decide +kernel
theorem dX8_guest_19 : decode cX8_guest 19 = .ok (.getfield 7, 3) := by decide +kernel
theorem dX8_guest_22 : decode cX8_guest 22 = .ok (.bipush 19, 2) := by decide +kernel
theorem dX8_guest_24 : decode cX8_guest 24 = .ok (.iconst 4, 1) := by decide +kernel
theorem dX8_guest_25 : decode cX8_guest 25 = .ok (.iload_n 2, 1) := by decide +kernel
theorem dX8_guest_26 : decode cX8_guest 26 = .ok (.imul, 1) := by decide +kernel
theorem dX8_guest_27 : decode cX8_guest 27 = .ok (.iadd, 1) := by decide +kernel
theorem dX8_guest_28 : decode cX8_guest 28 = .ok (.iload_n 1, 1) := by decide +kernel
theorem dX8_guest_29 : decode cX8_guest 29 = .ok (.iadd, 1) := by decide +kernel
theorem dX8_guest_30 : decode cX8_guest 30 = .ok (.iaload, 1) := by decide +kernel
theorem dX8_guest_31 : decode cX8_guest 31 = .ok (.goto 4, 3) := by decide +kernel
theorem dX8_guest_34 : decode cX8_guest 34 = .ok (.iconst (-1), 1) := by decide +kernel
theorem dX8_guest_35 : decode cX8_guest 35 = .ok (.ireturn, 1) := by decide +kernel
theorem dX8_ban_0 : decode cX8_ban 0 = .ok (.aload_n 0, 1) := by decide +kernel
theorem dX8_ban_1 : decode cX8_ban 1 = .ok (.iload_n 1, 1) := by decide +kernel
theorem dX8_ban_2 : decode cX8_ban 2 = .ok (.invokevirtual 166, 3) := by decide +kernel
theorem dX8_ban_5 : decode cX8_ban 5 = .ok (.ifCond .eq 15, 3) := by decide +kernel
theorem dX8_ban_8 : decode cX8_ban 8 = .ok (.iload_n 2, 1) := by decide +kernel
theorem dX8_ban_9 : decode cX8_ban 9 = .ok (.i2l, 1) := by decide +kernel
theorem dX8_ban_10 : decode cX8_ban 10 = .ok (.lconst 0, 1) := by decide +kernel
theorem dX8_ban_11 : decode cX8_ban 11 = .ok (.ldc2_w 169, 3) := by decide +kernel
theorem dX8_ban_14 : decode cX8_ban 14 = .ok (.invokestatic 46, 3) := by decide +kernel
theorem dX8_ban_17 : decode cX8_ban 17 = .ok (.ifCond .ne 5, 3) := by decide +kernel
theorem dX8_ban_20 : decode cX8_ban 20 = .ok (.iconst (-1), 1) := by decide +kernel
theorem dX8_ban_21 : decode cX8_ban 21 = .ok (.ireturn, 1) := by decide +kernel
theorem dX8_ban_22 : decode cX8_ban 22 = .ok (.iload_n 2, 1) := by decide +kernel
theorem dX8_ban_23 : decode cX8_ban 23 = .ok (.iconst 2, 1) := by decide +kernel
theorem dX8_ban_24 : decode cX8_ban 24 = .ok (.if_icmp .ge 19, 3) := by decide +kernel
theorem dX8_ban_27 : decode cX8_ban 27 = .ok (.aload_n 0, 1) := by decide +kernel
theorem dX8_ban_28 : decode cX8_ban 28 = .ok (.getfield 7, 3) := by decide +kernel
theorem dX8_ban_31 : decode cX8_ban 31 = .ok (.bipush 27, 2) := by decide +kernel
theorem dX8_ban_33 : decode cX8_ban 33 = .ok (.iconst 2, 1) := by decide +kernel
theorem dX8_ban_34 : decode cX8_ban 34 = .ok (.iload_n 1, 1) := by decide +kernel
theorem dX8_ban_35 : decode cX8_ban 35 = .ok (.imul, 1) := by decide +kernel
theorem dX8_ban_36 : decode cX8_ban 36 = .ok (.iadd, 1) := by decide +kernel
theorem dX8_ban_37 : decode cX8_ban 37 = .ok (.iload_n 2, 1) := by decide +kernel
theorem dX8_ban_38 : decode cX8_ban 38 = .ok (.iadd, 1) := by decide +kernel
theorem dX8_ban_39 : decode cX8_ban 39 = .ok (.iaload, 1) := by decide +kernel
theorem dX8_ban_40 : decode cX8_ban 40 = .ok (.goto 23, 3) := by decide +kernel
theorem dX8_ban_43 : decode cX8_ban 43 = .ok (.aload_n 0, 1) := by decide +kernel
theorem dX8_ban_44 : decode cX8_ban 44 = .ok (.aload_n 0, 1) := by decide +kernel
theorem dX8_ban_45 : decode cX8_ban 45 = .ok (.getfield 7, 3) := by decide +kernel
theorem dX8_ban_48 : decode cX8_ban 48 = .ok (.bipush 18, 2) := by decide +kernel
theorem dX8_ban_50 : decode cX8_ban 50 = .ok (.iaload, 1) := by decide +kernel
theorem dX8_ban_51 : decode cX8_ban 51 = .ok (.iload_n 1, 1) := by decide +kernel
theorem dX8_ban_52 : decode cX8_ban 52 = .ok (.invokevirtual 150, 3) := by decide +kernel
theorem dX8_ban_55 : decode cX8_ban 55 = .ok (.ifCond .eq 7, 3) := by decide +kernel
theorem dX8_ban_58 : decode cX8_ban 58 = .ok (.iconst 1, 1) := by decide +kernel
theorem dX8_ban_59 : decode cX8_ban 59 = .ok (.goto 4, 3) := by decide +kernel
theorem dX8_ban_62 : decode cX8_ban 62 = .ok (.iconst 0, 1) := by decide +kernel
theorem dX8_ban_63 : decode cX8_ban 63 = .ok (.ireturn, 1) := by decide +kernel
theorem dX8_puts_0 : decode cX8_puts 0 = .ok (.iload_n 1, 1) := by decide +kernel
theorem dX8_puts_1 : decode cX8_puts 1 = .ok (.ifCond .ne 5, 3) := by decide +kernel
theorem dX8_puts_4 : decode cX8_puts 4 = .ok (.iconst (-1), 1) := by decide +kernel
theorem dX8_puts_5 : decode cX8_puts 5 = .ok (.ireturn, 1) := by decide +kernel
theorem dX8_puts_6 : decode cX8_puts 6 = .ok (.aload_n 0, 1) := by decide +kernel
theorem dX8_puts_7 : decode cX8_puts 7 = .ok (.getfield 7, 3) := by decide +kernel
theorem dX8_puts_10 : decode cX8_puts 10 = .ok (.iload_n 2, 1) := by decide +kernel
theorem dX8_puts_11 : decode cX8_puts 11 = .ok (.iaload, 1) := by decide +kernel
theorem dX8_puts_12 : decode cX8_puts 12 = .ok (.iload 4, 2) := by decide +kernel
theorem dX8_puts_14 : decode cX8_puts 14 = .ok (.iadd, 1) := by decide +kernel
theorem dX8_puts_15 : decode cX8_puts 15 = .ok (.istore 5, 2) := by decide +kernel
theorem dX8_puts_17 : decode cX8_puts 17 = .ok (.aload_n 0, 1) := by decide +kernel
theorem dX8_puts_18 : decode cX8_puts 18 = .ok (.getfield 7, 3) := by decide +kernel
theorem dX8_puts_21 : decode cX8_puts 21 = .ok (.iload_n 2, 1) := by decide +kernel
theorem dX8_puts_22 : decode cX8_puts 22 = .ok (.iload_n 3, 1) := by decide +kernel
theorem dX8_puts_23 : decode cX8_puts 23 = .ok (.iload 4, 2) := by decide +kernel
theorem dX8_puts_25 : decode cX8_puts 25 = .ok (.isub, 1) := by decide +kernel
theorem dX8_puts_26 : decode cX8_puts 26 = .ok (.iastore, 1) := by decide +kernel
theorem dX8_puts_27 : decode cX8_puts 27 = .ok (.iload 5, 2) := by decide +kernel
theorem dX8_puts_29 : decode cX8_puts 29 = .ok (.ireturn, 1) := by decide +kernel
theorem dX8_alter_0 : decode cX8_alter 0 = .ok (.aload_n 0, 1) := by decide +kernel
theorem dX8_alter_1 : decode cX8_alter 1 = .ok (.iload_n 1, 1) := by decide +kernel
theorem dX8_alter_2 : decode cX8_alter 2 = .ok (.invokevirtual 160, 3) := by decide +kernel
theorem dX8_alter_5 : decode cX8_alter 5 = .ok (.ifCond .ne 5, 3) := by decide +kernel
theorem dX8_alter_8 : decode cX8_alter 8 = .ok (.iconst (-1), 1) := by decide +kernel
theorem dX8_alter_9 : decode cX8_alter 9 = .ok (.ireturn, 1) := by decide +kernel
theorem dX8_alter_10 : decode cX8_alter 10 = .ok (.iload_n 2, 1) := by decide +kernel
theorem dX8_alter_11 : decode cX8_alter 11 = .ok (.tableswitch 85 0 3 #[29, 46, 62, 78], 29) := by decide +kernel
theorem dX8_alter_40 : decode cX8_alter 40 = .ok (.aload_n 0, 1) := by decide +kernel
theorem dX8_alter_41 : decode cX8_alter 41 = .ok (.iload_n 3, 1) := by decide +kernel
theorem dX8_alter_42 : decode cX8_alter 42 = .ok (.i2l, 1) := by decide +kernel
theorem dX8_alter_43 : decode cX8_alter 43 = .ok (.lconst 0, 1) := by decide +kernel
theorem dX8_alter_44 : decode cX8_alter 44 = .ok (.ldc2_w 171, 3) := by decide +kernel
theorem dX8_alter_47 : decode cX8_alter 47 = .ok (.invokestatic 46, 3) := by decide +kernel
theorem dX8_alter_50 : decode cX8_alter 50 = .ok (.iload_n 1, 1) := by decide +kernel
theorem dX8_alter_51 : decode cX8_alter 51 = .ok (.iload_n 3, 1) := by decide +kernel
theorem dX8_alter_52 : decode cX8_alter 52 = .ok (.iconst 0, 1) := by decide +kernel
theorem dX8_alter_53 : decode cX8_alter 53 = .ok (.invokevirtual 173, 3) := by decide +kernel
theorem dX8_alter_56 : decode cX8_alter 56 = .ok (.ireturn, 1) := by decide +kernel
theorem dX8_alter_57 : decode cX8_alter 57 = .ok (.aload_n 0, 1) := by decide +kernel
theorem dX8_alter_58 : decode cX8_alter 58 = .ok (.aload_n 0, 1) := by decide +kernel
theorem dX8_alter_59 : decode cX8_alter 59 = .ok (.iload_n 3, 1) := by decide +kernel
theorem dX8_alter_60 : decode cX8_alter 60 = .ok (.invokevirtual 160, 3) := by decide +kernel
theorem dX8_alter_63 : decode cX8_alter 63 = .ok (.bipush 6, 2) := by decide +kernel
theorem dX8_alter_65 : decode cX8_alter 65 = .ok (.iload_n 1, 1) := by decide +kernel
theorem dX8_alter_66 : decode cX8_alter 66 = .ok (.iadd, 1) := by decide +kernel
theorem dX8_alter_67 : decode cX8_alter 67 = .ok (.iload_n 3, 1) := by decide +kernel
theorem dX8_alter_68 : decode cX8_alter 68 = .ok (.iload_n 1, 1) := by decide +kernel
theorem dX8_alter_69 : decode cX8_alter 69 = .ok (.invokevirtual 173, 3) := by decide +kernel
theorem dX8_alter_72 : decode cX8_alter 72 = .ok (.ireturn, 1) := by decide +kernel
theorem dX8_alter_73 : decode cX8_alter 73 = .ok (.aload_n 0, 1) := by decide +kernel
theorem dX8_alter_74 : decode cX8_alter 74 = .ok (.aload_n 0, 1) := by decide +kernel
theorem dX8_alter_75 : decode cX8_alter 75 = .ok (.iload_n 3, 1) := by decide +kernel
theorem dX8_alter_76 : decode cX8_alter 76 = .ok (.invokevirtual 160, 3) := by decide +kernel
theorem dX8_alter_79 : decode cX8_alter 79 = .ok (.bipush 12, 2) := by decide +kernel
theorem dX8_alter_81 : decode cX8_alter 81 = .ok (.iload_n 1, 1) := by decide +kernel
theorem dX8_alter_82 : decode cX8_alter 82 = .ok (.iadd, 1) := by decide +kernel
theorem dX8_alter_83 : decode cX8_alter 83 = .ok (.iload_n 3, 1) := by decide +kernel
theorem dX8_alter_84 : decode cX8_alter 84 = .ok (.iload_n 1, 1) := by decide +kernel
theorem dX8_alter_85 : decode cX8_alter 85 = .ok (.invokevirtual 173, 3) := by decide +kernel
theorem dX8_alter_88 : decode cX8_alter 88 = .ok (.ireturn, 1) := by decide +kernel
theorem dX8_alter_89 : decode cX8_alter 89 = .ok (.aload_n 0, 1) := by decide +kernel
theorem dX8_alter_90 : decode cX8_alter 90 = .ok (.iload_n 1, 1) := by decide +kernel
theorem dX8_alter_91 : decode cX8_alter 91 = .ok (.iload_n 3, 1) := by decide +kernel
theorem dX8_alter_92 : decode cX8_alter 92 = .ok (.invokevirtual 177, 3) := by decide +kernel
theorem dX8_alter_95 : decode cX8_alter 95 = .ok (.ireturn, 1) := by decide +kernel
theorem dX8_alter_96 : decode cX8_alter 96 = .ok (.iconst (-1), 1) := by decide +kernel
theorem dX8_alter_97 : decode cX8_alter 97 = .ok (.ireturn, 1) := by decide +kernel
theorem dX8_becomes_0 : decode cX8_becomes 0 = .ok (.iload_n 2, 1) := by decide +kernel
theorem dX8_becomes_1 : decode cX8_becomes 1 = .ok (.i2l, 1) := by decide +kernel
theorem dX8_becomes_2 : decode cX8_becomes 2 = .ok (.lconst 0, 1) := by decide +kernel
theorem dX8_becomes_3 : decode cX8_becomes 3 = .ok (.lconst 1, 1) := by decide +kernel
theorem dX8_becomes_4 : decode cX8_becomes 4 = .ok (.invokestatic 46, 3) := by decide +kernel
theorem dX8_becomes_7 : decode cX8_becomes 7 = .ok (.ifCond .ne 5, 3) := by decide +kernel
theorem dX8_becomes_10 : decode cX8_becomes 10 = .ok (.iconst (-1), 1) := by decide +kernel
theorem dX8_becomes_11 : decode cX8_becomes 11 = .ok (.ireturn, 1) := by decide +kernel
theorem dX8_becomes_12 : decode cX8_becomes 12 = .ok (.aload_n 0, 1) := by decide +kernel
theorem dX8_becomes_13 : decode cX8_becomes 13 = .ok (.getfield 7, 3) := by decide +kernel
theorem dX8_becomes_16 : decode cX8_becomes 16 = .ok (.bipush 18, 2) := by decide +kernel
theorem dX8_becomes_18 : decode cX8_becomes 18 = .ok (.iaload, 1) := by decide +kernel
theorem dX8_becomes_19 : decode cX8_becomes 19 = .ok (.iload_n 1, 1) := by decide +kernel
theorem dX8_becomes_20 : decode cX8_becomes 20 = .ok (.ishr, 1) := by decide +kernel
theorem dX8_becomes_21 : decode cX8_becomes 21 = .ok (.iconst 1, 1) := by decide +kernel
theorem dX8_becomes_22 : decode cX8_becomes 22 = .ok (.iand, 1) := by decide +kernel
theorem dX8_becomes_23 : decode cX8_becomes 23 = .ok (.istore_n 3, 1) := by decide +kernel
theorem dX8_becomes_24 : decode cX8_becomes 24 = .ok (.aload_n 0, 1) := by decide +kernel
theorem dX8_becomes_25 : decode cX8_becomes 25 = .ok (.getfield 7, 3) := by decide +kernel
theorem dX8_becomes_28 : decode cX8_becomes 28 = .ok (.bipush 18, 2) := by decide +kernel
theorem dX8_becomes_30 : decode cX8_becomes 30 = .ok (.aload_n 0, 1) := by decide +kernel
theorem dX8_becomes_31 : decode cX8_becomes 31 = .ok (.getfield 7, 3) := by decide +kernel
theorem dX8_becomes_34 : decode cX8_becomes 34 = .ok (.bipush 18, 2) := by decide +kernel
theorem dX8_becomes_36 : decode cX8_becomes 36 = .ok (.iaload, 1) := by decide +kernel
theorem dX8_becomes_37 : decode cX8_becomes 37 = .ok (.iconst 1, 1) := by decide +kernel
theorem dX8_becomes_38 : decode cX8_becomes 38 = .ok (.iload_n 1, 1) := by decide +kernel
theorem dX8_becomes_39 : decode cX8_becomes 39 = .ok (.ishl, 1) := by decide +kernel
theorem dX8_becomes_40 : decode cX8_becomes 40 = .ok (.iconst (-1), 1) := by decide +kernel
theorem dX8_becomes_41 : decode cX8_becomes 41 = .ok (.ixor, 1) := by decide +kernel
theorem dX8_becomes_42 : decode cX8_becomes 42 = .ok (.iand, 1) := by decide +kernel
theorem dX8_becomes_43 : decode cX8_becomes 43 = .ok (.iload_n 2, 1) := by decide +kernel
theorem dX8_becomes_44 : decode cX8_becomes 44 = .ok (.iload_n 1, 1) := by decide +kernel
theorem dX8_becomes_45 : decode cX8_becomes 45 = .ok (.ishl, 1) := by decide +kernel
theorem dX8_becomes_46 : decode cX8_becomes 46 = .ok (.ior, 1) := by decide +kernel
theorem dX8_becomes_47 : decode cX8_becomes 47 = .ok (.iastore, 1) := by decide +kernel
theorem dX8_becomes_48 : decode cX8_becomes 48 = .ok (.iload_n 3, 1) := by decide +kernel
theorem dX8_becomes_49 : decode cX8_becomes 49 = .ok (.ireturn, 1) := by decide +kernel
theorem dX8_hire_0 : decode cX8_hire 0 = .ok (.aload_n 0, 1) := by decide +kernel
theorem dX8_hire_1 : decode cX8_hire 1 = .ok (.aload_n 0, 1) := by decide +kernel
theorem dX8_hire_2 : decode cX8_hire 2 = .ok (.iload_n 1, 1) := by decide +kernel
theorem dX8_hire_3 : decode cX8_hire 3 = .ok (.invokevirtual 163, 3) := by decide +kernel
theorem dX8_hire_6 : decode cX8_hire 6 = .ok (.ifCond .eq 36, 3) := by decide +kernel
theorem dX8_hire_9 : decode cX8_hire 9 = .ok (.iload_n 2, 1) := by decide +kernel
theorem dX8_hire_10 : decode cX8_hire 10 = .ok (.ifCond .ne 11, 3) := by decide +kernel
theorem dX8_hire_13 : decode cX8_hire 13 = .ok (.aload_n 0, 1) := by decide +kernel
theorem dX8_hire_14 : decode cX8_hire 14 = .ok (.iload_n 3, 1) := by decide +kernel
theorem dX8_hire_15 : decode cX8_hire 15 = .ok (.invokevirtual 160, 3) := by decide +kernel
theorem dX8_hire_18 : decode cX8_hire 18 = .ok (.ifCond .ne 20, 3) := by decide +kernel
theorem dX8_hire_21 : decode cX8_hire 21 = .ok (.iload_n 2, 1) := by decide +kernel
theorem dX8_hire_22 : decode cX8_hire 22 = .ok (.iconst 1, 1) := by decide +kernel
theorem dX8_hire_23 : decode cX8_hire 23 = .ok (.if_icmp .ne 19, 3) := by decide +kernel
theorem dX8_hire_26 : decode cX8_hire 26 = .ok (.iload_n 3, 1) := by decide +kernel
theorem dX8_hire_27 : decode cX8_hire 27 = .ok (.i2l, 1) := by decide +kernel
theorem dX8_hire_28 : decode cX8_hire 28 = .ok (.lconst 0, 1) := by decide +kernel
theorem dX8_hire_29 : decode cX8_hire 29 = .ok (.ldc2_w 181, 3) := by decide +kernel
theorem dX8_hire_32 : decode cX8_hire 32 = .ok (.invokestatic 46, 3) := by decide +kernel
theorem dX8_hire_35 : decode cX8_hire 35 = .ok (.ifCond .eq 7, 3) := by decide +kernel
theorem dX8_hire_38 : decode cX8_hire 38 = .ok (.iconst 1, 1) := by decide +kernel
theorem dX8_hire_39 : decode cX8_hire 39 = .ok (.goto 4, 3) := by decide +kernel
theorem dX8_hire_42 : decode cX8_hire 42 = .ok (.iconst 0, 1) := by decide +kernel
theorem dX8_hire_43 : decode cX8_hire 43 = .ok (.bipush 19, 2) := by decide +kernel
theorem dX8_hire_45 : decode cX8_hire 45 = .ok (.iconst 4, 1) := by decide +kernel
theorem dX8_hire_46 : decode cX8_hire 46 = .ok (.iload_n 2, 1) := by decide +kernel
theorem dX8_hire_47 : decode cX8_hire 47 = .ok (.imul, 1) := by decide +kernel
theorem dX8_hire_48 : decode cX8_hire 48 = .ok (.iadd, 1) := by decide +kernel
theorem dX8_hire_49 : decode cX8_hire 49 = .ok (.iload_n 1, 1) := by decide +kernel
theorem dX8_hire_50 : decode cX8_hire 50 = .ok (.iadd, 1) := by decide +kernel
theorem dX8_hire_51 : decode cX8_hire 51 = .ok (.iload_n 3, 1) := by decide +kernel
theorem dX8_hire_52 : decode cX8_hire 52 = .ok (.iconst 0, 1) := by decide +kernel
theorem dX8_hire_53 : decode cX8_hire 53 = .ok (.invokevirtual 173, 3) := by decide +kernel
theorem dX8_hire_56 : decode cX8_hire 56 = .ok (.ireturn, 1) := by decide +kernel
theorem dX8_forbid_0 : decode cX8_forbid 0 = .ok (.aload_n 0, 1) := by decide +kernel
theorem dX8_forbid_1 : decode cX8_forbid 1 = .ok (.iload_n 1, 1) := by decide +kernel
theorem dX8_forbid_2 : decode cX8_forbid 2 = .ok (.invokevirtual 160, 3) := by decide +kernel
theorem dX8_forbid_5 : decode cX8_forbid 5 = .ok (.ifCond .eq 16, 3) := by decide +kernel
theorem dX8_forbid_8 : decode cX8_forbid 8 = .ok (.aload_n 0, 1) := by decide +kernel
theorem dX8_forbid_9 : decode cX8_forbid 9 = .ok (.iload_n 2, 1) := by decide +kernel
theorem dX8_forbid_10 : decode cX8_forbid 10 = .ok (.invokevirtual 160, 3) := by decide +kernel
theorem dX8_forbid_13 : decode cX8_forbid 13 = .ok (.ifCond .eq 8, 3) := by decide +kernel
theorem dX8_forbid_16 : decode cX8_forbid 16 = .ok (.iload_n 1, 1) := by decide +kernel
theorem dX8_forbid_17 : decode cX8_forbid 17 = .ok (.iload_n 2, 1) := by decide +kernel
theorem dX8_forbid_18 : decode cX8_forbid 18 = .ok (.if_icmp .ne 5, 3) := by decide +kernel
theorem dX8_forbid_21 : decode cX8_forbid 21 = .ok (.iconst (-1), 1) := by decide +kernel
theorem dX8_forbid_22 : decode cX8_forbid 22 = .ok (.ireturn, 1) := by decide +kernel
theorem dX8_forbid_23 : decode cX8_forbid 23 = .ok (.aload_n 0, 1) := by decide +kernel
theorem dX8_forbid_24 : decode cX8_forbid 24 = .ok (.getfield 7, 3) := by decide +kernel
theorem dX8_forbid_27 : decode cX8_forbid 27 = .ok (.bipush 35, 2) := by decide +kernel
theorem dX8_forbid_29 : decode cX8_forbid 29 = .ok (.iaload, 1) := by decide +kernel
theorem dX8_forbid_30 : decode cX8_forbid 30 = .ok (.iconst 4, 1) := by decide +kernel
theorem dX8_forbid_31 : decode cX8_forbid 31 = .ok (.if_icmp .ne 6, 3) := by decide +kernel
theorem dX8_forbid_34 : decode cX8_forbid 34 = .ok (.bipush (-3), 2) := by decide +kernel
theorem dX8_forbid_36 : decode cX8_forbid 36 = .ok (.ireturn, 1) := by decide +kernel
theorem dX8_forbid_37 : decode cX8_forbid 37 = .ok (.aload_n 0, 1) := by decide +kernel
theorem dX8_forbid_38 : decode cX8_forbid 38 = .ok (.getfield 7, 3) := by decide +kernel
theorem dX8_forbid_41 : decode cX8_forbid 41 = .ok (.bipush 27, 2) := by decide +kernel
theorem dX8_forbid_43 : decode cX8_forbid 43 = .ok (.iconst 2, 1) := by decide +kernel
theorem dX8_forbid_44 : decode cX8_forbid 44 = .ok (.aload_n 0, 1) := by decide +kernel
theorem dX8_forbid_45 : decode cX8_forbid 45 = .ok (.getfield 7, 3) := by decide +kernel
theorem dX8_forbid_48 : decode cX8_forbid 48 = .ok (.bipush 35, 2) := by decide +kernel
theorem dX8_forbid_50 : decode cX8_forbid 50 = .ok (.iaload, 1) := by decide +kernel
theorem dX8_forbid_51 : decode cX8_forbid 51 = .ok (.imul, 1) := by decide +kernel
theorem dX8_forbid_52 : decode cX8_forbid 52 = .ok (.iadd, 1) := by decide +kernel
theorem dX8_forbid_53 : decode cX8_forbid 53 = .ok (.iload_n 1, 1) := by decide +kernel
theorem dX8_forbid_54 : decode cX8_forbid 54 = .ok (.iastore, 1) := by decide +kernel
theorem dX8_forbid_55 : decode cX8_forbid 55 = .ok (.aload_n 0, 1) := by decide +kernel
theorem dX8_forbid_56 : decode cX8_forbid 56 = .ok (.getfield 7, 3) := by decide +kernel
theorem dX8_forbid_59 : decode cX8_forbid 59 = .ok (.bipush 27, 2) := by decide +kernel
theorem dX8_forbid_61 : decode cX8_forbid 61 = .ok (.iconst 2, 1) := by decide +kernel
theorem dX8_forbid_62 : decode cX8_forbid 62 = .ok (.aload_n 0, 1) := by decide +kernel
theorem dX8_forbid_63 : decode cX8_forbid 63 = .ok (.getfield 7, 3) := by decide +kernel
theorem dX8_forbid_66 : decode cX8_forbid 66 = .ok (.bipush 35, 2) := by decide +kernel
theorem dX8_forbid_68 : decode cX8_forbid 68 = .ok (.iaload, 1) := by decide +kernel
theorem dX8_forbid_69 : decode cX8_forbid 69 = .ok (.imul, 1) := by decide +kernel
theorem dX8_forbid_70 : decode cX8_forbid 70 = .ok (.iadd, 1) := by decide +kernel
theorem dX8_forbid_71 : decode cX8_forbid 71 = .ok (.iconst 1, 1) := by decide +kernel
theorem dX8_forbid_72 : decode cX8_forbid 72 = .ok (.iadd, 1) := by decide +kernel
theorem dX8_forbid_73 : decode cX8_forbid 73 = .ok (.iload_n 2, 1) := by decide +kernel
theorem dX8_forbid_74 : decode cX8_forbid 74 = .ok (.iastore, 1) := by decide +kernel
theorem dX8_forbid_75 : decode cX8_forbid 75 = .ok (.aload_n 0, 1) := by decide +kernel
theorem dX8_forbid_76 : decode cX8_forbid 76 = .ok (.getfield 7, 3) := by decide +kernel
theorem dX8_forbid_79 : decode cX8_forbid 79 = .ok (.bipush 35, 2) := by decide +kernel
theorem dX8_forbid_81 : decode cX8_forbid 81 = .ok (.dup2, 1) := by decide +kernel
theorem dX8_forbid_82 : decode cX8_forbid 82 = .ok (.iaload, 1) := by decide +kernel
theorem dX8_forbid_83 : decode cX8_forbid 83 = .ok (.iconst 1, 1) := by decide +kernel
theorem dX8_forbid_84 : decode cX8_forbid 84 = .ok (.iadd, 1) := by decide +kernel
theorem dX8_forbid_85 : decode cX8_forbid 85 = .ok (.iastore, 1) := by decide +kernel
theorem dX8_forbid_86 : decode cX8_forbid 86 = .ok (.aload_n 0, 1) := by decide +kernel
theorem dX8_forbid_87 : decode cX8_forbid 87 = .ok (.getfield 7, 3) := by decide +kernel
theorem dX8_forbid_90 : decode cX8_forbid 90 = .ok (.bipush 35, 2) := by decide +kernel
theorem dX8_forbid_92 : decode cX8_forbid 92 = .ok (.iaload, 1) := by decide +kernel
theorem dX8_forbid_93 : decode cX8_forbid 93 = .ok (.ireturn, 1) := by decide +kernel
theorem dX8_lift_0 : decode cX8_lift 0 = .ok (.aload_n 0, 1) := by decide +kernel
theorem dX8_lift_1 : decode cX8_lift 1 = .ok (.iload_n 1, 1) := by decide +kernel
theorem dX8_lift_2 : decode cX8_lift 2 = .ok (.invokevirtual 166, 3) := by decide +kernel
theorem dX8_lift_5 : decode cX8_lift 5 = .ok (.ifCond .ne 5, 3) := by decide +kernel
theorem dX8_lift_8 : decode cX8_lift 8 = .ok (.iconst (-1), 1) := by decide +kernel
theorem dX8_lift_9 : decode cX8_lift 9 = .ok (.ireturn, 1) := by decide +kernel
theorem dX8_lift_10 : decode cX8_lift 10 = .ok (.bipush 27, 2) := by decide +kernel
theorem dX8_lift_12 : decode cX8_lift 12 = .ok (.iconst 2, 1) := by decide +kernel
theorem dX8_lift_13 : decode cX8_lift 13 = .ok (.iload_n 1, 1) := by decide +kernel
theorem dX8_lift_14 : decode cX8_lift 14 = .ok (.imul, 1) := by decide +kernel
theorem dX8_lift_15 : decode cX8_lift 15 = .ok (.iadd, 1) := by decide +kernel
theorem dX8_lift_16 : decode cX8_lift 16 = .ok (.istore_n 2, 1) := by decide +kernel
theorem dX8_lift_17 : decode cX8_lift 17 = .ok (.iload_n 2, 1) := by decide +kernel
theorem dX8_lift_18 : decode cX8_lift 18 = .ok (.bipush 33, 2) := by decide +kernel
theorem dX8_lift_20 : decode cX8_lift 20 = .ok (.if_icmp .ge 23, 3) := by decide +kernel
theorem dX8_lift_23 : decode cX8_lift 23 = .ok (.aload_n 0, 1) := by decide +kernel
theorem dX8_lift_24 : decode cX8_lift 24 = .ok (.getfield 7, 3) := by decide +kernel
theorem dX8_lift_27 : decode cX8_lift 27 = .ok (.iload_n 2, 1) := by decide +kernel
theorem dX8_lift_28 : decode cX8_lift 28 = .ok (.aload_n 0, 1) := by decide +kernel
theorem dX8_lift_29 : decode cX8_lift 29 = .ok (.getfield 7, 3) := by decide +kernel
theorem dX8_lift_32 : decode cX8_lift 32 = .ok (.iload_n 2, 1) := by decide +kernel
theorem dX8_lift_33 : decode cX8_lift 33 = .ok (.iconst 2, 1) := by decide +kernel
theorem dX8_lift_34 : decode cX8_lift 34 = .ok (.iadd, 1) := by decide +kernel
theorem dX8_lift_35 : decode cX8_lift 35 = .ok (.iaload, 1) := by decide +kernel
theorem dX8_lift_36 : decode cX8_lift 36 = .ok (.iastore, 1) := by decide +kernel
theorem dX8_lift_37 : decode cX8_lift 37 = .ok (.iinc 2 1, 3) := by decide +kernel
theorem dX8_lift_40 : decode cX8_lift 40 = .ok (.goto (-23), 3) := by decide +kernel
theorem dX8_lift_43 : decode cX8_lift 43 = .ok (.aload_n 0, 1) := by decide +kernel
theorem dX8_lift_44 : decode cX8_lift 44 = .ok (.getfield 7, 3) := by decide +kernel
theorem dX8_lift_47 : decode cX8_lift 47 = .ok (.bipush 35, 2) := by decide +kernel
theorem dX8_lift_49 : decode cX8_lift 49 = .ok (.dup2, 1) := by decide +kernel
theorem dX8_lift_50 : decode cX8_lift 50 = .ok (.iaload, 1) := by decide +kernel
theorem dX8_lift_51 : decode cX8_lift 51 = .ok (.iconst 1, 1) := by decide +kernel
theorem dX8_lift_52 : decode cX8_lift 52 = .ok (.isub, 1) := by decide +kernel
theorem dX8_lift_53 : decode cX8_lift 53 = .ok (.iastore, 1) := by decide +kernel
theorem dX8_lift_54 : decode cX8_lift 54 = .ok (.aload_n 0, 1) := by decide +kernel
theorem dX8_lift_55 : decode cX8_lift 55 = .ok (.getfield 7, 3) := by decide +kernel
theorem dX8_lift_58 : decode cX8_lift 58 = .ok (.bipush 35, 2) := by decide +kernel
theorem dX8_lift_60 : decode cX8_lift 60 = .ok (.iaload, 1) := by decide +kernel
theorem dX8_lift_61 : decode cX8_lift 61 = .ok (.ireturn, 1) := by decide +kernel
theorem dX8_undoes_0 : decode cX8_undoes 0 = .ok (.aload_n 0, 1) := by decide +kernel
theorem dX8_undoes_1 : decode cX8_undoes 1 = .ok (.iload_n 1, 1) := by decide +kernel
theorem dX8_undoes_2 : decode cX8_undoes 2 = .ok (.invokevirtual 163, 3) := by decide +kernel
theorem dX8_undoes_5 : decode cX8_undoes 5 = .ok (.ifCond .ne 5, 3) := by decide +kernel
theorem dX8_undoes_8 : decode cX8_undoes 8 = .ok (.iconst (-1), 1) := by decide +kernel
theorem dX8_undoes_9 : decode cX8_undoes 9 = .ok (.ireturn, 1) := by decide +kernel
theorem dX8_undoes_10 : decode cX8_undoes 10 = .ok (.aload_n 0, 1) := by decide +kernel
theorem dX8_undoes_11 : decode cX8_undoes 11 = .ok (.getfield 7, 3) := by decide +kernel
theorem dX8_undoes_14 : decode cX8_undoes 14 = .ok (.bipush 18, 2) := by decide +kernel
theorem dX8_undoes_16 : decode cX8_undoes 16 = .ok (.iaload, 1) := by decide +kernel
theorem dX8_undoes_17 : decode cX8_undoes 17 = .ok (.iconst 1, 1) := by decide +kernel
theorem dX8_undoes_18 : decode cX8_undoes 18 = .ok (.aload_n 0, 1) := by decide +kernel
theorem dX8_undoes_19 : decode cX8_undoes 19 = .ok (.getfield 7, 3) := by decide +kernel
theorem dX8_undoes_22 : decode cX8_undoes 22 = .ok (.bipush 19, 2) := by decide +kernel
theorem dX8_undoes_24 : decode cX8_undoes 24 = .ok (.iload_n 1, 1) := by decide +kernel
theorem dX8_undoes_25 : decode cX8_undoes 25 = .ok (.iadd, 1) := by decide +kernel
theorem dX8_undoes_26 : decode cX8_undoes 26 = .ok (.iaload, 1) := by decide +kernel
theorem dX8_undoes_27 : decode cX8_undoes 27 = .ok (.ishl, 1) := by decide +kernel
theorem dX8_undoes_28 : decode cX8_undoes 28 = .ok (.ixor, 1) := by decide +kernel
theorem dX8_undoes_29 : decode cX8_undoes 29 = .ok (.istore_n 2, 1) := by decide +kernel
theorem dX8_undoes_30 : decode cX8_undoes 30 = .ok (.aload_n 0, 1) := by decide +kernel
theorem dX8_undoes_31 : decode cX8_undoes 31 = .ok (.iload_n 2, 1) := by decide +kernel
theorem dX8_undoes_32 : decode cX8_undoes 32 = .ok (.invokevirtual 153, 3) := by decide +kernel
theorem dX8_undoes_35 : decode cX8_undoes 35 = .ok (.ifCond .ne 6, 3) := by decide +kernel
theorem dX8_undoes_38 : decode cX8_undoes 38 = .ok (.bipush (-2), 2) := by decide +kernel
theorem dX8_undoes_40 : decode cX8_undoes 40 = .ok (.ireturn, 1) := by decide +kernel
theorem dX8_undoes_41 : decode cX8_undoes 41 = .ok (.aload_n 0, 1) := by decide +kernel
theorem dX8_undoes_42 : decode cX8_undoes 42 = .ok (.getfield 7, 3) := by decide +kernel
theorem dX8_undoes_45 : decode cX8_undoes 45 = .ok (.bipush 18, 2) := by decide +kernel
theorem dX8_undoes_47 : decode cX8_undoes 47 = .ok (.iload_n 2, 1) := by decide +kernel
theorem dX8_undoes_48 : decode cX8_undoes 48 = .ok (.iastore, 1) := by decide +kernel
theorem dX8_undoes_49 : decode cX8_undoes 49 = .ok (.iload_n 2, 1) := by decide +kernel
theorem dX8_undoes_50 : decode cX8_undoes 50 = .ok (.ireturn, 1) := by decide +kernel
theorem dX8_undo_0 : decode cX8_undo 0 = .ok (.aload_n 0, 1) := by decide +kernel
theorem dX8_undo_1 : decode cX8_undo 1 = .ok (.iload_n 1, 1) := by decide +kernel
theorem dX8_undo_2 : decode cX8_undo 2 = .ok (.invokevirtual 183, 3) := by decide +kernel
theorem dX8_undo_5 : decode cX8_undo 5 = .ok (.ireturn, 1) := by decide +kernel
theorem dX8_go_0 : decode cX8_go 0 = .ok (.iload_n 1, 1) := by decide +kernel
theorem dX8_go_1 : decode cX8_go 1 = .ok (.i2l, 1) := by decide +kernel
theorem dX8_go_2 : decode cX8_go 2 = .ok (.lconst 0, 1) := by decide +kernel
theorem dX8_go_3 : decode cX8_go 3 = .ok (.ldc2_w 186, 3) := by decide +kernel
theorem dX8_go_6 : decode cX8_go 6 = .ok (.invokestatic 46, 3) := by decide +kernel
theorem dX8_go_9 : decode cX8_go 9 = .ok (.ifCond .ne 5, 3) := by decide +kernel
theorem dX8_go_12 : decode cX8_go 12 = .ok (.iconst (-1), 1) := by decide +kernel
theorem dX8_go_13 : decode cX8_go 13 = .ok (.ireturn, 1) := by decide +kernel
theorem dX8_go_14 : decode cX8_go 14 = .ok (.aload_n 0, 1) := by decide +kernel
theorem dX8_go_15 : decode cX8_go 15 = .ok (.getfield 7, 3) := by decide +kernel
theorem dX8_go_18 : decode cX8_go 18 = .ok (.bipush 36, 2) := by decide +kernel
theorem dX8_go_20 : decode cX8_go 20 = .ok (.iaload, 1) := by decide +kernel
theorem dX8_go_21 : decode cX8_go 21 = .ok (.iload_n 1, 1) := by decide +kernel
theorem dX8_go_22 : decode cX8_go 22 = .ok (.iadd, 1) := by decide +kernel
theorem dX8_go_23 : decode cX8_go 23 = .ok (.sipush 999, 3) := by decide +kernel
theorem dX8_go_26 : decode cX8_go 26 = .ok (.if_icmp .le 6, 3) := by decide +kernel
theorem dX8_go_29 : decode cX8_go 29 = .ok (.bipush (-3), 2) := by decide +kernel
theorem dX8_go_31 : decode cX8_go 31 = .ok (.ireturn, 1) := by decide +kernel
theorem dX8_go_32 : decode cX8_go 32 = .ok (.aload_n 0, 1) := by decide +kernel
theorem dX8_go_33 : decode cX8_go 33 = .ok (.getfield 7, 3) := by decide +kernel
theorem dX8_go_36 : decode cX8_go 36 = .ok (.bipush 18, 2) := by decide +kernel
theorem dX8_go_38 : decode cX8_go 38 = .ok (.aload_n 0, 1) := by decide +kernel
theorem dX8_go_39 : decode cX8_go 39 = .ok (.aload_n 0, 1) := by decide +kernel
theorem dX8_go_40 : decode cX8_go 40 = .ok (.getfield 7, 3) := by decide +kernel
theorem dX8_go_43 : decode cX8_go 43 = .ok (.bipush 18, 2) := by decide +kernel
theorem dX8_go_45 : decode cX8_go 45 = .ok (.iaload, 1) := by decide +kernel
theorem dX8_go_46 : decode cX8_go 46 = .ok (.iload_n 1, 1) := by decide +kernel
theorem dX8_go_47 : decode cX8_go 47 = .ok (.invokevirtual 188, 3) := by decide +kernel
theorem dX8_go_50 : decode cX8_go 50 = .ok (.iastore, 1) := by decide +kernel
theorem dX8_go_51 : decode cX8_go 51 = .ok (.aload_n 0, 1) := by decide +kernel
theorem dX8_go_52 : decode cX8_go 52 = .ok (.getfield 7, 3) := by decide +kernel
theorem dX8_go_55 : decode cX8_go 55 = .ok (.bipush 36, 2) := by decide +kernel
theorem dX8_go_57 : decode cX8_go 57 = .ok (.dup2, 1) := by decide +kernel
theorem dX8_go_58 : decode cX8_go 58 = .ok (.iaload, 1) := by decide +kernel
theorem dX8_go_59 : decode cX8_go 59 = .ok (.iload_n 1, 1) := by decide +kernel
theorem dX8_go_60 : decode cX8_go 60 = .ok (.iadd, 1) := by decide +kernel
theorem dX8_go_61 : decode cX8_go 61 = .ok (.iastore, 1) := by decide +kernel
theorem dX8_go_62 : decode cX8_go 62 = .ok (.aload_n 0, 1) := by decide +kernel
theorem dX8_go_63 : decode cX8_go 63 = .ok (.getfield 7, 3) := by decide +kernel
theorem dX8_go_66 : decode cX8_go 66 = .ok (.bipush 18, 2) := by decide +kernel
theorem dX8_go_68 : decode cX8_go 68 = .ok (.iaload, 1) := by decide +kernel
theorem dX8_go_69 : decode cX8_go 69 = .ok (.ireturn, 1) := by decide +kernel
theorem dX8_ahead_0 : decode cX8_ahead 0 = .ok (.iload_n 1, 1) := by decide +kernel
theorem dX8_ahead_1 : decode cX8_ahead 1 = .ok (.i2l, 1) := by decide +kernel
theorem dX8_ahead_2 : decode cX8_ahead 2 = .ok (.lconst 0, 1) := by decide +kernel
theorem dX8_ahead_3 : decode cX8_ahead 3 = .ok (.ldc2_w 186, 3) := by decide +kernel
theorem dX8_ahead_6 : decode cX8_ahead 6 = .ok (.invokestatic 46, 3) := by decide +kernel
theorem dX8_ahead_9 : decode cX8_ahead 9 = .ok (.ifCond .eq 18, 3) := by decide +kernel
theorem dX8_ahead_12 : decode cX8_ahead 12 = .ok (.aload_n 0, 1) := by decide +kernel
theorem dX8_ahead_13 : decode cX8_ahead 13 = .ok (.aload_n 0, 1) := by decide +kernel
theorem dX8_ahead_14 : decode cX8_ahead 14 = .ok (.getfield 7, 3) := by decide +kernel
theorem dX8_ahead_17 : decode cX8_ahead 17 = .ok (.bipush 18, 2) := by decide +kernel
theorem dX8_ahead_19 : decode cX8_ahead 19 = .ok (.iaload, 1) := by decide +kernel
theorem dX8_ahead_20 : decode cX8_ahead 20 = .ok (.iload_n 1, 1) := by decide +kernel
theorem dX8_ahead_21 : decode cX8_ahead 21 = .ok (.invokevirtual 188, 3) := by decide +kernel
theorem dX8_ahead_24 : decode cX8_ahead 24 = .ok (.goto 4, 3) := by decide +kernel
theorem dX8_ahead_27 : decode cX8_ahead 27 = .ok (.iconst (-1), 1) := by decide +kernel
theorem dX8_ahead_28 : decode cX8_ahead 28 = .ok (.ireturn, 1) := by decide +kernel
theorem dX8_next_0 : decode cX8_next 0 = .ok (.aload_n 0, 1) := by decide +kernel
theorem dX8_next_1 : decode cX8_next 1 = .ok (.iload_n 1, 1) := by decide +kernel
theorem dX8_next_2 : decode cX8_next 2 = .ok (.invokevirtual 191, 3) := by decide +kernel
theorem dX8_next_5 : decode cX8_next 5 = .ok (.ifCond .eq 11, 3) := by decide +kernel
theorem dX8_next_8 : decode cX8_next 8 = .ok (.aload_n 0, 1) := by decide +kernel
theorem dX8_next_9 : decode cX8_next 9 = .ok (.iload_n 1, 1) := by decide +kernel
theorem dX8_next_10 : decode cX8_next 10 = .ok (.invokevirtual 147, 3) := by decide +kernel
theorem dX8_next_13 : decode cX8_next 13 = .ok (.goto 4, 3) := by decide +kernel
theorem dX8_next_16 : decode cX8_next 16 = .ok (.iconst (-1), 1) := by decide +kernel
theorem dX8_next_17 : decode cX8_next 17 = .ok (.ireturn, 1) := by decide +kernel
theorem dX8_ringOf_0 : decode cX8_ringOf 0 = .ok (.iload_n 1, 1) := by decide +kernel
theorem dX8_ringOf_1 : decode cX8_ringOf 1 = .ok (.istore_n 2, 1) := by decide +kernel
theorem dX8_ringOf_2 : decode cX8_ringOf 2 = .ok (.iconst 1, 1) := by decide +kernel
theorem dX8_ringOf_3 : decode cX8_ringOf 3 = .ok (.istore_n 3, 1) := by decide +kernel
theorem dX8_ringOf_4 : decode cX8_ringOf 4 = .ok (.iload_n 3, 1) := by decide +kernel
theorem dX8_ringOf_5 : decode cX8_ringOf 5 = .ok (.aload_n 0, 1) := by decide +kernel
theorem dX8_ringOf_6 : decode cX8_ringOf 6 = .ok (.invokevirtual 134, 3) := by decide +kernel
theorem dX8_ringOf_9 : decode cX8_ringOf 9 = .ok (.if_icmp .gt 22, 3) := by decide +kernel
theorem dX8_ringOf_12 : decode cX8_ringOf 12 = .ok (.aload_n 0, 1) := by decide +kernel
theorem dX8_ringOf_13 : decode cX8_ringOf 13 = .ok (.iload_n 2, 1) := by decide +kernel
theorem dX8_ringOf_14 : decode cX8_ringOf 14 = .ok (.invokevirtual 147, 3) := by decide +kernel
theorem dX8_ringOf_17 : decode cX8_ringOf 17 = .ok (.istore_n 2, 1) := by decide +kernel
theorem dX8_ringOf_18 : decode cX8_ringOf 18 = .ok (.iload_n 2, 1) := by decide +kernel
theorem dX8_ringOf_19 : decode cX8_ringOf 19 = .ok (.iload_n 1, 1) := by decide +kernel
theorem dX8_ringOf_20 : decode cX8_ringOf 20 = .ok (.if_icmp .ne 5, 3) := by decide +kernel
theorem dX8_ringOf_23 : decode cX8_ringOf 23 = .ok (.iload_n 3, 1) := by decide +kernel
theorem dX8_ringOf_24 : decode cX8_ringOf 24 = .ok (.ireturn, 1) := by decide +kernel
theorem dX8_ringOf_25 : decode cX8_ringOf 25 = .ok (.iinc 3 1, 3) := by decide +kernel
theorem dX8_ringOf_28 : decode cX8_ringOf 28 = .ok (.goto (-24), 3) := by decide +kernel
theorem dX8_ringOf_31 : decode cX8_ringOf 31 = .ok (.iconst 0, 1) := by decide +kernel
theorem dX8_ringOf_32 : decode cX8_ringOf 32 = .ok (.ireturn, 1) := by decide +kernel
theorem dX8_ring_0 : decode cX8_ring 0 = .ok (.iload_n 1, 1) := by decide +kernel
theorem dX8_ring_1 : decode cX8_ring 1 = .ok (.i2l, 1) := by decide +kernel
theorem dX8_ring_2 : decode cX8_ring 2 = .ok (.lconst 0, 1) := by decide +kernel
theorem dX8_ring_3 : decode cX8_ring 3 = .ok (.ldc2_w 194, 3) := by decide +kernel
theorem dX8_ring_6 : decode cX8_ring 6 = .ok (.invokestatic 46, 3) := by decide +kernel
theorem dX8_ring_9 : decode cX8_ring 9 = .ok (.ifCond .ne 5, 3) := by decide +kernel
theorem dX8_ring_12 : decode cX8_ring 12 = .ok (.iconst (-1), 1) := by decide +kernel
theorem dX8_ring_13 : decode cX8_ring 13 = .ok (.ireturn, 1) := by decide +kernel
theorem dX8_ring_14 : decode cX8_ring 14 = .ok (.aload_n 0, 1) := by decide +kernel
theorem dX8_ring_15 : decode cX8_ring 15 = .ok (.getfield 7, 3) := by decide +kernel
theorem dX8_ring_18 : decode cX8_ring 18 = .ok (.bipush 18, 2) := by decide +kernel
theorem dX8_ring_20 : decode cX8_ring 20 = .ok (.iaload, 1) := by decide +kernel
theorem dX8_ring_21 : decode cX8_ring 21 = .ok (.istore_n 2, 1) := by decide +kernel
theorem dX8_ring_22 : decode cX8_ring 22 = .ok (.iconst 0, 1) := by decide +kernel
theorem dX8_ring_23 : decode cX8_ring 23 = .ok (.istore_n 3, 1) := by decide +kernel
theorem dX8_ring_24 : decode cX8_ring 24 = .ok (.aload_n 0, 1) := by decide +kernel
theorem dX8_ring_25 : decode cX8_ring 25 = .ok (.iload_n 2, 1) := by decide +kernel
theorem dX8_ring_26 : decode cX8_ring 26 = .ok (.invokevirtual 196, 3) := by decide +kernel
theorem dX8_ring_29 : decode cX8_ring 29 = .ok (.ifCond .ne 15, 3) := by decide +kernel
theorem dX8_ring_32 : decode cX8_ring 32 = .ok (.aload_n 0, 1) := by decide +kernel
theorem dX8_ring_33 : decode cX8_ring 33 = .ok (.iload_n 2, 1) := by decide +kernel
theorem dX8_ring_34 : decode cX8_ring 34 = .ok (.invokevirtual 147, 3) := by decide +kernel
theorem dX8_ring_37 : decode cX8_ring 37 = .ok (.istore_n 2, 1) := by decide +kernel
theorem dX8_ring_38 : decode cX8_ring 38 = .ok (.iinc 3 1, 3) := by decide +kernel
theorem dX8_ring_41 : decode cX8_ring 41 = .ok (.goto (-17), 3) := by decide +kernel
theorem dX8_ring_44 : decode cX8_ring 44 = .ok (.iload_n 2, 1) := by decide +kernel
theorem dX8_ring_45 : decode cX8_ring 45 = .ok (.istore 4, 2) := by decide +kernel
theorem dX8_ring_47 : decode cX8_ring 47 = .ok (.iload_n 2, 1) := by decide +kernel
theorem dX8_ring_48 : decode cX8_ring 48 = .ok (.istore 5, 2) := by decide +kernel
theorem dX8_ring_50 : decode cX8_ring 50 = .ok (.iconst 1, 1) := by decide +kernel
theorem dX8_ring_51 : decode cX8_ring 51 = .ok (.istore 6, 2) := by decide +kernel
theorem dX8_ring_53 : decode cX8_ring 53 = .ok (.iload 6, 2) := by decide +kernel
theorem dX8_ring_55 : decode cX8_ring 55 = .ok (.aload_n 0, 1) := by decide +kernel
theorem dX8_ring_56 : decode cX8_ring 56 = .ok (.iload_n 2, 1) := by decide +kernel
theorem dX8_ring_57 : decode cX8_ring 57 = .ok (.invokevirtual 196, 3) := by decide +kernel
theorem dX8_ring_60 : decode cX8_ring 60 = .ok (.if_icmp .ge 33, 3) := by decide +kernel
theorem dX8_ring_63 : decode cX8_ring 63 = .ok (.iload 4, 2) := by decide +kernel
theorem dX8_ring_65 : decode cX8_ring 65 = .ok (.aload_n 0, 1) := by decide +kernel
theorem dX8_ring_66 : decode cX8_ring 66 = .ok (.iload_n 2, 1) := by decide +kernel
theorem dX8_ring_67 : decode cX8_ring 67 = .ok (.iload 6, 2) := by decide +kernel
theorem dX8_ring_69 : decode cX8_ring 69 = .ok (.invokevirtual 188, 3) := by decide +kernel
theorem dX8_ring_72 : decode cX8_ring 72 = .ok (.iand, 1) := by decide +kernel
theorem dX8_ring_73 : decode cX8_ring 73 = .ok (.istore 4, 2) := by decide +kernel
theorem dX8_ring_75 : decode cX8_ring 75 = .ok (.iload 5, 2) := by decide +kernel
theorem dX8_ring_77 : decode cX8_ring 77 = .ok (.aload_n 0, 1) := by decide +kernel
theorem dX8_ring_78 : decode cX8_ring 78 = .ok (.iload_n 2, 1) := by decide +kernel
theorem dX8_ring_79 : decode cX8_ring 79 = .ok (.iload 6, 2) := by decide +kernel
theorem dX8_ring_81 : decode cX8_ring 81 = .ok (.invokevirtual 188, 3) := by decide +kernel
theorem dX8_ring_84 : decode cX8_ring 84 = .ok (.ior, 1) := by decide +kernel
theorem dX8_ring_85 : decode cX8_ring 85 = .ok (.istore 5, 2) := by decide +kernel
theorem dX8_ring_87 : decode cX8_ring 87 = .ok (.iinc 6 1, 3) := by decide +kernel
theorem dX8_ring_90 : decode cX8_ring 90 = .ok (.goto (-37), 3) := by decide +kernel
theorem dX8_ring_93 : decode cX8_ring 93 = .ok (.iload_n 1, 1) := by decide +kernel
theorem dX8_ring_94 : decode cX8_ring 94 = .ok (.ifCond .ne 7, 3) := by decide +kernel
theorem dX8_ring_97 : decode cX8_ring 97 = .ok (.iload_n 3, 1) := by decide +kernel
theorem dX8_ring_98 : decode cX8_ring 98 = .ok (.goto 28, 3) := by decide +kernel
theorem dX8_ring_101 : decode cX8_ring 101 = .ok (.iload_n 1, 1) := by decide +kernel
theorem dX8_ring_102 : decode cX8_ring 102 = .ok (.iconst 1, 1) := by decide +kernel
theorem dX8_ring_103 : decode cX8_ring 103 = .ok (.if_icmp .ne 11, 3) := by decide +kernel
theorem dX8_ring_106 : decode cX8_ring 106 = .ok (.aload_n 0, 1) := by decide +kernel
theorem dX8_ring_107 : decode cX8_ring 107 = .ok (.iload_n 2, 1) := by decide +kernel
theorem dX8_ring_108 : decode cX8_ring 108 = .ok (.invokevirtual 196, 3) := by decide +kernel
theorem dX8_ring_111 : decode cX8_ring 111 = .ok (.goto 15, 3) := by decide +kernel
theorem dX8_ring_114 : decode cX8_ring 114 = .ok (.iload_n 1, 1) := by decide +kernel
theorem dX8_ring_115 : decode cX8_ring 115 = .ok (.iconst 2, 1) := by decide +kernel
theorem dX8_ring_116 : decode cX8_ring 116 = .ok (.if_icmp .ne 8, 3) := by decide +kernel
theorem dX8_ring_119 : decode cX8_ring 119 = .ok (.iload 4, 2) := by decide +kernel
theorem dX8_ring_121 : decode cX8_ring 121 = .ok (.goto 5, 3) := by decide +kernel
theorem dX8_ring_124 : decode cX8_ring 124 = .ok (.iload 5, 2) := by decide +kernel
theorem dX8_ring_126 : decode cX8_ring 126 = .ok (.ireturn, 1) := by decide +kernel
theorem dX8_rings_0 : decode cX8_rings 0 = .ok (.iload_n 1, 1) := by decide +kernel
theorem dX8_rings_1 : decode cX8_rings 1 = .ok (.i2l, 1) := by decide +kernel
theorem dX8_rings_2 : decode cX8_rings 2 = .ok (.lconst 0, 1) := by decide +kernel
theorem dX8_rings_3 : decode cX8_rings 3 = .ok (.ldc2_w 194, 3) := by decide +kernel
theorem dX8_rings_6 : decode cX8_rings 6 = .ok (.invokestatic 46, 3) := by decide +kernel
theorem dX8_rings_9 : decode cX8_rings 9 = .ok (.ifCond .ne 5, 3) := by decide +kernel
theorem dX8_rings_12 : decode cX8_rings 12 = .ok (.iconst (-1), 1) := by decide +kernel
theorem dX8_rings_13 : decode cX8_rings 13 = .ok (.ireturn, 1) := by decide +kernel
theorem dX8_rings_14 : decode cX8_rings 14 = .ok (.iconst 0, 1) := by decide +kernel
theorem dX8_rings_15 : decode cX8_rings 15 = .ok (.istore_n 2, 1) := by decide +kernel
theorem dX8_rings_16 : decode cX8_rings 16 = .ok (.ldc 199, 2) := by decide +kernel
theorem dX8_rings_18 : decode cX8_rings 18 = .ok (.istore_n 3, 1) := by decide +kernel
theorem dX8_rings_19 : decode cX8_rings 19 = .ok (.iconst 0, 1) := by decide +kernel
theorem dX8_rings_20 : decode cX8_rings 20 = .ok (.istore 4, 2) := by decide +kernel
theorem dX8_rings_22 : decode cX8_rings 22 = .ok (.iconst 0, 1) := by decide +kernel
theorem dX8_rings_23 : decode cX8_rings 23 = .ok (.istore 5, 2) := by decide +kernel
theorem dX8_rings_25 : decode cX8_rings 25 = .ok (.iconst 0, 1) := by decide +kernel
theorem dX8_rings_26 : decode cX8_rings 26 = .ok (.istore 6, 2) := by decide +kernel
theorem dX8_rings_28 : decode cX8_rings 28 = .ok (.iload 6, 2) := by decide +kernel
theorem dX8_rings_30 : decode cX8_rings 30 = .ok (.aload_n 0, 1) := by decide +kernel
theorem dX8_rings_31 : decode cX8_rings 31 = .ok (.invokevirtual 134, 3) := by decide +kernel
theorem dX8_rings_34 : decode cX8_rings 34 = .ok (.if_icmp .ge 137, 3) := by decide +kernel
theorem dX8_rings_37 : decode cX8_rings 37 = .ok (.aload_n 0, 1) := by decide +kernel
theorem dX8_rings_38 : decode cX8_rings 38 = .ok (.iload 6, 2) := by decide +kernel
theorem dX8_rings_40 : decode cX8_rings 40 = .ok (.invokevirtual 196, 3) := by decide +kernel
theorem dX8_rings_43 : decode cX8_rings 43 = .ok (.istore 7, 2) := by decide +kernel
theorem dX8_rings_45 : decode cX8_rings 45 = .ok (.iload 7, 2) := by decide +kernel
theorem dX8_rings_47 : decode cX8_rings 47 = .ok (.ifCond .le 7, 3) := by decide +kernel
theorem dX8_rings_50 : decode cX8_rings 50 = .ok (.iconst 1, 1) := by decide +kernel
theorem dX8_rings_51 : decode cX8_rings 51 = .ok (.goto 4, 3) := by decide +kernel
theorem dX8_rings_54 : decode cX8_rings 54 = .ok (.iconst 0, 1) := by decide +kernel
theorem dX8_rings_55 : decode cX8_rings 55 = .ok (.istore 8, 2) := by decide +kernel
theorem dX8_rings_57 : decode cX8_rings 57 = .ok (.iconst 1, 1) := by decide +kernel
theorem dX8_rings_58 : decode cX8_rings 58 = .ok (.istore 9, 2) := by decide +kernel
theorem dX8_rings_60 : decode cX8_rings 60 = .ok (.iload 9, 2) := by decide +kernel
theorem dX8_rings_62 : decode cX8_rings 62 = .ok (.iload 7, 2) := by decide +kernel
theorem dX8_rings_64 : decode cX8_rings 64 = .ok (.if_icmp .ge 34, 3) := by decide +kernel
theorem dX8_rings_67 : decode cX8_rings 67 = .ok (.iload 8, 2) := by decide +kernel
theorem dX8_rings_69 : decode cX8_rings 69 = .ok (.ifCond .eq 20, 3) := by decide +kernel
theorem dX8_rings_72 : decode cX8_rings 72 = .ok (.aload_n 0, 1) := by decide +kernel
theorem dX8_rings_73 : decode cX8_rings 73 = .ok (.iload 6, 2) := by decide +kernel
theorem dX8_rings_75 : decode cX8_rings 75 = .ok (.iload 9, 2) := by decide +kernel
theorem dX8_rings_77 : decode cX8_rings 77 = .ok (.invokevirtual 188, 3) := by decide +kernel
theorem dX8_rings_80 : decode cX8_rings 80 = .ok (.iload 6, 2) := by decide +kernel
theorem dX8_rings_82 : decode cX8_rings 82 = .ok (.if_icmp .le 7, 3) := by decide +kernel
theorem dX8_rings_85 : decode cX8_rings 85 = .ok (.iconst 1, 1) := by decide +kernel
theorem dX8_rings_86 : decode cX8_rings 86 = .ok (.goto 4, 3) := by decide +kernel
theorem dX8_rings_89 : decode cX8_rings 89 = .ok (.iconst 0, 1) := by decide +kernel
theorem dX8_rings_90 : decode cX8_rings 90 = .ok (.istore 8, 2) := by decide +kernel
theorem dX8_rings_92 : decode cX8_rings 92 = .ok (.iinc 9 1, 3) := by decide +kernel
theorem dX8_rings_95 : decode cX8_rings 95 = .ok (.goto (-35), 3) := by decide +kernel
theorem dX8_rings_98 : decode cX8_rings 98 = .ok (.iload_n 2, 1) := by decide +kernel
theorem dX8_rings_99 : decode cX8_rings 99 = .ok (.iload 8, 2) := by decide +kernel
theorem dX8_rings_101 : decode cX8_rings 101 = .ok (.ifCond .eq 7, 3) := by decide +kernel
theorem dX8_rings_104 : decode cX8_rings 104 = .ok (.iconst 1, 1) := by decide +kernel
theorem dX8_rings_105 : decode cX8_rings 105 = .ok (.goto 4, 3) := by decide +kernel
theorem dX8_rings_108 : decode cX8_rings 108 = .ok (.iconst 0, 1) := by decide +kernel
theorem dX8_rings_109 : decode cX8_rings 109 = .ok (.iadd, 1) := by decide +kernel
theorem dX8_rings_110 : decode cX8_rings 110 = .ok (.istore_n 2, 1) := by decide +kernel
theorem dX8_rings_111 : decode cX8_rings 111 = .ok (.iload 7, 2) := by decide +kernel
theorem dX8_rings_113 : decode cX8_rings 113 = .ok (.ifCond .le 14, 3) := by decide +kernel
theorem dX8_rings_116 : decode cX8_rings 116 = .ok (.iload 7, 2) := by decide +kernel
theorem dX8_rings_118 : decode cX8_rings 118 = .ok (.iload_n 3, 1) := by decide +kernel
theorem dX8_rings_119 : decode cX8_rings 119 = .ok (.if_icmp .ge 8, 3) := by decide +kernel
theorem dX8_rings_122 : decode cX8_rings 122 = .ok (.iload 6, 2) := by decide +kernel
theorem dX8_rings_124 : decode cX8_rings 124 = .ok (.goto 5, 3) := by decide +kernel
theorem dX8_rings_127 : decode cX8_rings 127 = .ok (.iload 4, 2) := by decide +kernel
theorem dX8_rings_129 : decode cX8_rings 129 = .ok (.istore 4, 2) := by decide +kernel
theorem dX8_rings_131 : decode cX8_rings 131 = .ok (.iload 7, 2) := by decide +kernel
theorem dX8_rings_133 : decode cX8_rings 133 = .ok (.ifCond .le 14, 3) := by decide +kernel
theorem dX8_rings_136 : decode cX8_rings 136 = .ok (.iload 7, 2) := by decide +kernel
theorem dX8_rings_138 : decode cX8_rings 138 = .ok (.iload_n 3, 1) := by decide +kernel
theorem dX8_rings_139 : decode cX8_rings 139 = .ok (.if_icmp .ge 8, 3) := by decide +kernel
theorem dX8_rings_142 : decode cX8_rings 142 = .ok (.iload 7, 2) := by decide +kernel
theorem dX8_rings_144 : decode cX8_rings 144 = .ok (.goto 4, 3) := by decide +kernel
theorem dX8_rings_147 : decode cX8_rings 147 = .ok (.iload_n 3, 1) := by decide +kernel
theorem dX8_rings_148 : decode cX8_rings 148 = .ok (.istore_n 3, 1) := by decide +kernel
theorem dX8_rings_149 : decode cX8_rings 149 = .ok (.iload 7, 2) := by decide +kernel
theorem dX8_rings_151 : decode cX8_rings 151 = .ok (.iload 5, 2) := by decide +kernel
theorem dX8_rings_153 : decode cX8_rings 153 = .ok (.if_icmp .le 8, 3) := by decide +kernel
theorem dX8_rings_156 : decode cX8_rings 156 = .ok (.iload 7, 2) := by decide +kernel
theorem dX8_rings_158 : decode cX8_rings 158 = .ok (.goto 5, 3) := by decide +kernel
theorem dX8_rings_161 : decode cX8_rings 161 = .ok (.iload 5, 2) := by decide +kernel
theorem dX8_rings_163 : decode cX8_rings 163 = .ok (.istore 5, 2) := by decide +kernel
theorem dX8_rings_165 : decode cX8_rings 165 = .ok (.iinc 6 1, 3) := by decide +kernel
theorem dX8_rings_168 : decode cX8_rings 168 = .ok (.goto (-140), 3) := by decide +kernel
theorem dX8_rings_171 : decode cX8_rings 171 = .ok (.iload_n 1, 1) := by decide +kernel
theorem dX8_rings_172 : decode cX8_rings 172 = .ok (.ifCond .ne 7, 3) := by decide +kernel
theorem dX8_rings_175 : decode cX8_rings 175 = .ok (.iload_n 2, 1) := by decide +kernel
theorem dX8_rings_176 : decode cX8_rings 176 = .ok (.goto 24, 3) := by decide +kernel
theorem dX8_rings_179 : decode cX8_rings 179 = .ok (.iload_n 1, 1) := by decide +kernel
theorem dX8_rings_180 : decode cX8_rings 180 = .ok (.iconst 1, 1) := by decide +kernel
theorem dX8_rings_181 : decode cX8_rings 181 = .ok (.if_icmp .ne 7, 3) := by decide +kernel
theorem dX8_rings_184 : decode cX8_rings 184 = .ok (.iload_n 3, 1) := by decide +kernel
theorem dX8_rings_185 : decode cX8_rings 185 = .ok (.goto 15, 3) := by decide +kernel
theorem dX8_rings_188 : decode cX8_rings 188 = .ok (.iload_n 1, 1) := by decide +kernel
theorem dX8_rings_189 : decode cX8_rings 189 = .ok (.iconst 2, 1) := by decide +kernel
theorem dX8_rings_190 : decode cX8_rings 190 = .ok (.if_icmp .ne 8, 3) := by decide +kernel
theorem dX8_rings_193 : decode cX8_rings 193 = .ok (.iload 4, 2) := by decide +kernel
theorem dX8_rings_195 : decode cX8_rings 195 = .ok (.goto 5, 3) := by decide +kernel
theorem dX8_rings_198 : decode cX8_rings 198 = .ok (.iload 5, 2) := by decide +kernel
theorem dX8_rings_200 : decode cX8_rings 200 = .ok (.ireturn, 1) := by decide +kernel
theorem dX8_tellsNone_0 : decode cX8_tellsNone 0 = .ok (.aload_n 0, 1) := by decide +kernel
theorem dX8_tellsNone_1 : decode cX8_tellsNone 1 = .ok (.iconst 0, 1) := by decide +kernel
theorem dX8_tellsNone_2 : decode cX8_tellsNone 2 = .ok (.putfield 200, 3) := by decide +kernel
theorem dX8_tellsNone_5 : decode cX8_tellsNone 5 = .ok (.aload_n 0, 1) := by decide +kernel
theorem dX8_tellsNone_6 : decode cX8_tellsNone 6 = .ok (.bipush (-4), 2) := by decide +kernel
theorem dX8_tellsNone_8 : decode cX8_tellsNone 8 = .ok (.putfield 203, 3) := by decide +kernel
theorem dX8_tellsNone_11 : decode cX8_tellsNone 11 = .ok (.aload_n 0, 1) := by decide +kernel
theorem dX8_tellsNone_12 : decode cX8_tellsNone 12 = .ok (.aload_n 0, 1) := by decide +kernel
theorem dX8_tellsNone_13 : decode cX8_tellsNone 13 = .ok (.invokevirtual 134, 3) := by decide +kernel
theorem dX8_tellsNone_16 : decode cX8_tellsNone 16 = .ok (.iconst 1, 1) := by decide +kernel
theorem dX8_tellsNone_17 : decode cX8_tellsNone 17 = .ok (.isub, 1) := by decide +kernel
theorem dX8_tellsNone_18 : decode cX8_tellsNone 18 = .ok (.putfield 206, 3) := by decide +kernel
theorem dX8_tellsNone_21 : decode cX8_tellsNone 21 = .ok (.aload_n 0, 1) := by decide +kernel
theorem dX8_tellsNone_22 : decode cX8_tellsNone 22 = .ok (.iconst 0, 1) := by decide +kernel
theorem dX8_tellsNone_23 : decode cX8_tellsNone 23 = .ok (.putfield 209, 3) := by decide +kernel
theorem dX8_tellsNone_26 : decode cX8_tellsNone 26 = .ok (.return_, 1) := by decide +kernel
theorem dX8_tells_0 : decode cX8_tells 0 = .ok (.aload_n 0, 1) := by decide +kernel
theorem dX8_tells_1 : decode cX8_tells 1 = .ok (.aload_n 0, 1) := by decide +kernel
theorem dX8_tells_2 : decode cX8_tells 2 = .ok (.getfield 200, 3) := by decide +kernel
theorem dX8_tells_5 : decode cX8_tells 5 = .ok (.ifCond .ne 7, 3) := by decide +kernel
theorem dX8_tells_8 : decode cX8_tells 8 = .ok (.iload_n 1, 1) := by decide +kernel
theorem dX8_tells_9 : decode cX8_tells 9 = .ok (.goto 7, 3) := by decide +kernel
theorem dX8_tells_12 : decode cX8_tells 12 = .ok (.aload_n 0, 1) := by decide +kernel
theorem dX8_tells_13 : decode cX8_tells 13 = .ok (.getfield 203, 3) := by decide +kernel
theorem dX8_tells_16 : decode cX8_tells 16 = .ok (.putfield 203, 3) := by decide +kernel
theorem dX8_tells_19 : decode cX8_tells 19 = .ok (.aload_n 0, 1) := by decide +kernel
theorem dX8_tells_20 : decode cX8_tells 20 = .ok (.dup, 1) := by decide +kernel
theorem dX8_tells_21 : decode cX8_tells 21 = .ok (.getfield 200, 3) := by decide +kernel
theorem dX8_tells_24 : decode cX8_tells 24 = .ok (.iconst 1, 1) := by decide +kernel
theorem dX8_tells_25 : decode cX8_tells 25 = .ok (.iadd, 1) := by decide +kernel
theorem dX8_tells_26 : decode cX8_tells 26 = .ok (.putfield 200, 3) := by decide +kernel
theorem dX8_tells_29 : decode cX8_tells 29 = .ok (.aload_n 0, 1) := by decide +kernel
theorem dX8_tells_30 : decode cX8_tells 30 = .ok (.dup, 1) := by decide +kernel
theorem dX8_tells_31 : decode cX8_tells 31 = .ok (.getfield 206, 3) := by decide +kernel
theorem dX8_tells_34 : decode cX8_tells 34 = .ok (.iload_n 1, 1) := by decide +kernel
theorem dX8_tells_35 : decode cX8_tells 35 = .ok (.iand, 1) := by decide +kernel
theorem dX8_tells_36 : decode cX8_tells 36 = .ok (.putfield 206, 3) := by decide +kernel
theorem dX8_tells_39 : decode cX8_tells 39 = .ok (.aload_n 0, 1) := by decide +kernel
theorem dX8_tells_40 : decode cX8_tells 40 = .ok (.dup, 1) := by decide +kernel
theorem dX8_tells_41 : decode cX8_tells 41 = .ok (.getfield 209, 3) := by decide +kernel
theorem dX8_tells_44 : decode cX8_tells 44 = .ok (.iload_n 1, 1) := by decide +kernel
theorem dX8_tells_45 : decode cX8_tells 45 = .ok (.ior, 1) := by decide +kernel
theorem dX8_tells_46 : decode cX8_tells 46 = .ok (.putfield 209, 3) := by decide +kernel
theorem dX8_tells_49 : decode cX8_tells 49 = .ok (.return_, 1) := by decide +kernel
theorem dX8_told_0 : decode cX8_told 0 = .ok (.iload_n 1, 1) := by decide +kernel
theorem dX8_told_1 : decode cX8_told 1 = .ok (.ifCond .ne 10, 3) := by decide +kernel
theorem dX8_told_4 : decode cX8_told 4 = .ok (.aload_n 0, 1) := by decide +kernel
theorem dX8_told_5 : decode cX8_told 5 = .ok (.getfield 200, 3) := by decide +kernel
theorem dX8_told_8 : decode cX8_told 8 = .ok (.goto 43, 3) := by decide +kernel
theorem dX8_told_11 : decode cX8_told 11 = .ok (.aload_n 0, 1) := by decide +kernel
theorem dX8_told_12 : decode cX8_told 12 = .ok (.getfield 200, 3) := by decide +kernel
theorem dX8_told_15 : decode cX8_told 15 = .ok (.ifCond .ne 8, 3) := by decide +kernel
theorem dX8_told_18 : decode cX8_told 18 = .ok (.bipush (-4), 2) := by decide +kernel
theorem dX8_told_20 : decode cX8_told 20 = .ok (.goto 31, 3) := by decide +kernel
theorem dX8_told_23 : decode cX8_told 23 = .ok (.iload_n 1, 1) := by decide +kernel
theorem dX8_told_24 : decode cX8_told 24 = .ok (.iconst 1, 1) := by decide +kernel
theorem dX8_told_25 : decode cX8_told 25 = .ok (.if_icmp .ne 10, 3) := by decide +kernel
theorem dX8_told_28 : decode cX8_told 28 = .ok (.aload_n 0, 1) := by decide +kernel
theorem dX8_told_29 : decode cX8_told 29 = .ok (.getfield 203, 3) := by decide +kernel
theorem dX8_told_32 : decode cX8_told 32 = .ok (.goto 19, 3) := by decide +kernel
theorem dX8_told_35 : decode cX8_told 35 = .ok (.iload_n 1, 1) := by decide +kernel
theorem dX8_told_36 : decode cX8_told 36 = .ok (.iconst 2, 1) := by decide +kernel
theorem dX8_told_37 : decode cX8_told 37 = .ok (.if_icmp .ne 10, 3) := by decide +kernel
theorem dX8_told_40 : decode cX8_told 40 = .ok (.aload_n 0, 1) := by decide +kernel
theorem dX8_told_41 : decode cX8_told 41 = .ok (.getfield 206, 3) := by decide +kernel
theorem dX8_told_44 : decode cX8_told 44 = .ok (.goto 7, 3) := by decide +kernel
theorem dX8_told_47 : decode cX8_told 47 = .ok (.aload_n 0, 1) := by decide +kernel
theorem dX8_told_48 : decode cX8_told 48 = .ok (.getfield 209, 3) := by decide +kernel
theorem dX8_told_51 : decode cX8_told 51 = .ok (.ireturn, 1) := by decide +kernel
theorem dX8_agreeMany_0 : decode cX8_agreeMany 0 = .ok (.aload_n 0, 1) := by decide +kernel
theorem dX8_agreeMany_1 : decode cX8_agreeMany 1 = .ok (.invokevirtual 212, 3) := by decide +kernel
theorem dX8_agreeMany_4 : decode cX8_agreeMany 4 = .ok (.iconst 0, 1) := by decide +kernel
theorem dX8_agreeMany_5 : decode cX8_agreeMany 5 = .ok (.istore_n 1, 1) := by decide +kernel
theorem dX8_agreeMany_6 : decode cX8_agreeMany 6 = .ok (.iload_n 1, 1) := by decide +kernel
theorem dX8_agreeMany_7 : decode cX8_agreeMany 7 = .ok (.aload_n 0, 1) := by decide +kernel
theorem dX8_agreeMany_8 : decode cX8_agreeMany 8 = .ok (.invokevirtual 134, 3) := by decide +kernel
theorem dX8_agreeMany_11 : decode cX8_agreeMany 11 = .ok (.if_icmp .ge 30, 3) := by decide +kernel
theorem dX8_agreeMany_14 : decode cX8_agreeMany 14 = .ok (.aload_n 0, 1) := by decide +kernel
theorem dX8_agreeMany_15 : decode cX8_agreeMany 15 = .ok (.iload_n 1, 1) := by decide +kernel
theorem dX8_agreeMany_16 : decode cX8_agreeMany 16 = .ok (.invokevirtual 157, 3) := by decide +kernel
theorem dX8_agreeMany_19 : decode cX8_agreeMany 19 = .ok (.ifCond .eq 16, 3) := by decide +kernel
theorem dX8_agreeMany_22 : decode cX8_agreeMany 22 = .ok (.aload_n 0, 1) := by decide +kernel
theorem dX8_agreeMany_23 : decode cX8_agreeMany 23 = .ok (.iload_n 1, 1) := by decide +kernel
theorem dX8_agreeMany_24 : decode cX8_agreeMany 24 = .ok (.invokevirtual 153, 3) := by decide +kernel
theorem dX8_agreeMany_27 : decode cX8_agreeMany 27 = .ok (.ifCond .eq 8, 3) := by decide +kernel
theorem dX8_agreeMany_30 : decode cX8_agreeMany 30 = .ok (.aload_n 0, 1) := by decide +kernel
theorem dX8_agreeMany_31 : decode cX8_agreeMany 31 = .ok (.iload_n 1, 1) := by decide +kernel
theorem dX8_agreeMany_32 : decode cX8_agreeMany 32 = .ok (.invokevirtual 215, 3) := by decide +kernel
theorem dX8_agreeMany_35 : decode cX8_agreeMany 35 = .ok (.iinc 1 1, 3) := by decide +kernel
theorem dX8_agreeMany_38 : decode cX8_agreeMany 38 = .ok (.goto (-32), 3) := by decide +kernel
theorem dX8_agreeMany_41 : decode cX8_agreeMany 41 = .ok (.aload_n 0, 1) := by decide +kernel
theorem dX8_agreeMany_42 : decode cX8_agreeMany 42 = .ok (.getfield 200, 3) := by decide +kernel
theorem dX8_agreeMany_45 : decode cX8_agreeMany 45 = .ok (.ireturn, 1) := by decide +kernel
theorem dX8_agree_0 : decode cX8_agree 0 = .ok (.iload_n 1, 1) := by decide +kernel
theorem dX8_agree_1 : decode cX8_agree 1 = .ok (.i2l, 1) := by decide +kernel
theorem dX8_agree_2 : decode cX8_agree 2 = .ok (.lconst 0, 1) := by decide +kernel
theorem dX8_agree_3 : decode cX8_agree 3 = .ok (.ldc2_w 194, 3) := by decide +kernel
theorem dX8_agree_6 : decode cX8_agree 6 = .ok (.invokestatic 46, 3) := by decide +kernel
theorem dX8_agree_9 : decode cX8_agree 9 = .ok (.ifCond .ne 5, 3) := by decide +kernel
theorem dX8_agree_12 : decode cX8_agree 12 = .ok (.iconst (-1), 1) := by decide +kernel
theorem dX8_agree_13 : decode cX8_agree 13 = .ok (.ireturn, 1) := by decide +kernel
theorem dX8_agree_14 : decode cX8_agree 14 = .ok (.aload_n 0, 1) := by decide +kernel
theorem dX8_agree_15 : decode cX8_agree 15 = .ok (.invokevirtual 218, 3) := by decide +kernel
theorem dX8_agree_18 : decode cX8_agree 18 = .ok (.pop, 1) := by decide +kernel
theorem dX8_agree_19 : decode cX8_agree 19 = .ok (.aload_n 0, 1) := by decide +kernel
theorem dX8_agree_20 : decode cX8_agree 20 = .ok (.iload_n 1, 1) := by decide +kernel
theorem dX8_agree_21 : decode cX8_agree 21 = .ok (.invokevirtual 221, 3) := by decide +kernel
theorem dX8_agree_24 : decode cX8_agree 24 = .ok (.ireturn, 1) := by decide +kernel
theorem dX8_comesOf_0 : decode cX8_comesOf 0 = .ok (.aload_n 0, 1) := by decide +kernel
theorem dX8_comesOf_1 : decode cX8_comesOf 1 = .ok (.invokevirtual 212, 3) := by decide +kernel
theorem dX8_comesOf_4 : decode cX8_comesOf 4 = .ok (.iconst 0, 1) := by decide +kernel
theorem dX8_comesOf_5 : decode cX8_comesOf 5 = .ok (.istore_n 2, 1) := by decide +kernel
theorem dX8_comesOf_6 : decode cX8_comesOf 6 = .ok (.iload_n 2, 1) := by decide +kernel
theorem dX8_comesOf_7 : decode cX8_comesOf 7 = .ok (.aload_n 0, 1) := by decide +kernel
theorem dX8_comesOf_8 : decode cX8_comesOf 8 = .ok (.invokevirtual 134, 3) := by decide +kernel
theorem dX8_comesOf_11 : decode cX8_comesOf 11 = .ok (.if_icmp .ge 23, 3) := by decide +kernel
theorem dX8_comesOf_14 : decode cX8_comesOf 14 = .ok (.aload_n 0, 1) := by decide +kernel
theorem dX8_comesOf_15 : decode cX8_comesOf 15 = .ok (.iload_n 2, 1) := by decide +kernel
theorem dX8_comesOf_16 : decode cX8_comesOf 16 = .ok (.invokevirtual 147, 3) := by decide +kernel
theorem dX8_comesOf_19 : decode cX8_comesOf 19 = .ok (.iload_n 1, 1) := by decide +kernel
theorem dX8_comesOf_20 : decode cX8_comesOf 20 = .ok (.if_icmp .ne 8, 3) := by decide +kernel
theorem dX8_comesOf_23 : decode cX8_comesOf 23 = .ok (.aload_n 0, 1) := by decide +kernel
theorem dX8_comesOf_24 : decode cX8_comesOf 24 = .ok (.iload_n 2, 1) := by decide +kernel
theorem dX8_comesOf_25 : decode cX8_comesOf 25 = .ok (.invokevirtual 215, 3) := by decide +kernel
theorem dX8_comesOf_28 : decode cX8_comesOf 28 = .ok (.iinc 2 1, 3) := by decide +kernel
theorem dX8_comesOf_31 : decode cX8_comesOf 31 = .ok (.goto (-25), 3) := by decide +kernel
theorem dX8_comesOf_34 : decode cX8_comesOf 34 = .ok (.return_, 1) := by decide +kernel
theorem dX8_before_0 : decode cX8_before 0 = .ok (.aload_n 0, 1) := by decide +kernel
theorem dX8_before_1 : decode cX8_before 1 = .ok (.iload_n 1, 1) := by decide +kernel
theorem dX8_before_2 : decode cX8_before 2 = .ok (.invokevirtual 191, 3) := by decide +kernel
theorem dX8_before_5 : decode cX8_before 5 = .ok (.ifCond .eq 13, 3) := by decide +kernel
theorem dX8_before_8 : decode cX8_before 8 = .ok (.iload_n 2, 1) := by decide +kernel
theorem dX8_before_9 : decode cX8_before 9 = .ok (.i2l, 1) := by decide +kernel
theorem dX8_before_10 : decode cX8_before 10 = .ok (.lconst 0, 1) := by decide +kernel
theorem dX8_before_11 : decode cX8_before 11 = .ok (.lconst 1, 1) := by decide +kernel
theorem dX8_before_12 : decode cX8_before 12 = .ok (.invokestatic 46, 3) := by decide +kernel
theorem dX8_before_15 : decode cX8_before 15 = .ok (.ifCond .ne 5, 3) := by decide +kernel
theorem dX8_before_18 : decode cX8_before 18 = .ok (.iconst (-1), 1) := by decide +kernel
theorem dX8_before_19 : decode cX8_before 19 = .ok (.ireturn, 1) := by decide +kernel
theorem dX8_before_20 : decode cX8_before 20 = .ok (.aload_n 0, 1) := by decide +kernel
theorem dX8_before_21 : decode cX8_before 21 = .ok (.iload_n 1, 1) := by decide +kernel
theorem dX8_before_22 : decode cX8_before 22 = .ok (.invokevirtual 224, 3) := by decide +kernel
theorem dX8_before_25 : decode cX8_before 25 = .ok (.aload_n 0, 1) := by decide +kernel
theorem dX8_before_26 : decode cX8_before 26 = .ok (.iload_n 2, 1) := by decide +kernel
theorem dX8_before_27 : decode cX8_before 27 = .ok (.invokevirtual 221, 3) := by decide +kernel
theorem dX8_before_30 : decode cX8_before 30 = .ok (.ireturn, 1) := by decide +kernel
theorem dX8_gardens_0 : decode cX8_gardens 0 = .ok (.iconst 0, 1) := by decide +kernel
theorem dX8_gardens_1 : decode cX8_gardens 1 = .ok (.istore_n 1, 1) := by decide +kernel
theorem dX8_gardens_2 : decode cX8_gardens 2 = .ok (.iconst 0, 1) := by decide +kernel
theorem dX8_gardens_3 : decode cX8_gardens 3 = .ok (.istore_n 2, 1) := by decide +kernel
theorem dX8_gardens_4 : decode cX8_gardens 4 = .ok (.iload_n 2, 1) := by decide +kernel
theorem dX8_gardens_5 : decode cX8_gardens 5 = .ok (.aload_n 0, 1) := by decide +kernel
theorem dX8_gardens_6 : decode cX8_gardens 6 = .ok (.invokevirtual 134, 3) := by decide +kernel
theorem dX8_gardens_9 : decode cX8_gardens 9 = .ok (.if_icmp .ge 29, 3) := by decide +kernel
theorem dX8_gardens_12 : decode cX8_gardens 12 = .ok (.aload_n 0, 1) := by decide +kernel
theorem dX8_gardens_13 : decode cX8_gardens 13 = .ok (.iload_n 2, 1) := by decide +kernel
theorem dX8_gardens_14 : decode cX8_gardens 14 = .ok (.invokevirtual 224, 3) := by decide +kernel
theorem dX8_gardens_17 : decode cX8_gardens 17 = .ok (.iload_n 1, 1) := by decide +kernel
theorem dX8_gardens_18 : decode cX8_gardens 18 = .ok (.aload_n 0, 1) := by decide +kernel
theorem dX8_gardens_19 : decode cX8_gardens 19 = .ok (.getfield 200, 3) := by decide +kernel
theorem dX8_gardens_22 : decode cX8_gardens 22 = .ok (.ifCond .ne 7, 3) := by decide +kernel
theorem dX8_gardens_25 : decode cX8_gardens 25 = .ok (.iconst 1, 1) := by decide +kernel
theorem dX8_gardens_26 : decode cX8_gardens 26 = .ok (.goto 4, 3) := by decide +kernel
theorem dX8_gardens_29 : decode cX8_gardens 29 = .ok (.iconst 0, 1) := by decide +kernel
theorem dX8_gardens_30 : decode cX8_gardens 30 = .ok (.iadd, 1) := by decide +kernel
theorem dX8_gardens_31 : decode cX8_gardens 31 = .ok (.istore_n 1, 1) := by decide +kernel
theorem dX8_gardens_32 : decode cX8_gardens 32 = .ok (.iinc 2 1, 3) := by decide +kernel
theorem dX8_gardens_35 : decode cX8_gardens 35 = .ok (.goto (-31), 3) := by decide +kernel
theorem dX8_gardens_38 : decode cX8_gardens 38 = .ok (.iload_n 1, 1) := by decide +kernel
theorem dX8_gardens_39 : decode cX8_gardens 39 = .ok (.ireturn, 1) := by decide +kernel
theorem dX8_clash_0 : decode cX8_clash 0 = .ok (.aload_n 0, 1) := by decide +kernel
theorem dX8_clash_1 : decode cX8_clash 1 = .ok (.getfield 7, 3) := by decide +kernel
theorem dX8_clash_4 : decode cX8_clash 4 = .ok (.bipush 18, 2) := by decide +kernel
theorem dX8_clash_6 : decode cX8_clash 6 = .ok (.iaload, 1) := by decide +kernel
theorem dX8_clash_7 : decode cX8_clash 7 = .ok (.istore_n 1, 1) := by decide +kernel
theorem dX8_clash_8 : decode cX8_clash 8 = .ok (.iconst 0, 1) := by decide +kernel
theorem dX8_clash_9 : decode cX8_clash 9 = .ok (.istore_n 2, 1) := by decide +kernel
theorem dX8_clash_10 : decode cX8_clash 10 = .ok (.iload_n 2, 1) := by decide +kernel
theorem dX8_clash_11 : decode cX8_clash 11 = .ok (.bipush 99, 2) := by decide +kernel
theorem dX8_clash_13 : decode cX8_clash 13 = .ok (.if_icmp .gt 25, 3) := by decide +kernel
theorem dX8_clash_16 : decode cX8_clash 16 = .ok (.aload_n 0, 1) := by decide +kernel
theorem dX8_clash_17 : decode cX8_clash 17 = .ok (.iload_n 1, 1) := by decide +kernel
theorem dX8_clash_18 : decode cX8_clash 18 = .ok (.invokevirtual 153, 3) := by decide +kernel
theorem dX8_clash_21 : decode cX8_clash 21 = .ok (.ifCond .ne 5, 3) := by decide +kernel
theorem dX8_clash_24 : decode cX8_clash 24 = .ok (.iload_n 2, 1) := by decide +kernel
theorem dX8_clash_25 : decode cX8_clash 25 = .ok (.ireturn, 1) := by decide +kernel
theorem dX8_clash_26 : decode cX8_clash 26 = .ok (.aload_n 0, 1) := by decide +kernel
theorem dX8_clash_27 : decode cX8_clash 27 = .ok (.iload_n 1, 1) := by decide +kernel
theorem dX8_clash_28 : decode cX8_clash 28 = .ok (.invokevirtual 147, 3) := by decide +kernel
theorem dX8_clash_31 : decode cX8_clash 31 = .ok (.istore_n 1, 1) := by decide +kernel
theorem dX8_clash_32 : decode cX8_clash 32 = .ok (.iinc 2 1, 3) := by decide +kernel
theorem dX8_clash_35 : decode cX8_clash 35 = .ok (.goto (-25), 3) := by decide +kernel
theorem dX8_clash_38 : decode cX8_clash 38 = .ok (.bipush (-4), 2) := by decide +kernel
theorem dX8_clash_40 : decode cX8_clash 40 = .ok (.ireturn, 1) := by decide +kernel
theorem dX8_goesWay_0 : decode cX8_goesWay 0 = .ok (.aload_n 0, 1) := by decide +kernel
theorem dX8_goesWay_1 : decode cX8_goesWay 1 = .ok (.aload_n 0, 1) := by decide +kernel
theorem dX8_goesWay_2 : decode cX8_goesWay 2 = .ok (.getfield 7, 3) := by decide +kernel
theorem dX8_goesWay_5 : decode cX8_goesWay 5 = .ok (.bipush 18, 2) := by decide +kernel
theorem dX8_goesWay_7 : decode cX8_goesWay 7 = .ok (.iaload, 1) := by decide +kernel
theorem dX8_goesWay_8 : decode cX8_goesWay 8 = .ok (.putfield 227, 3) := by decide +kernel
theorem dX8_goesWay_11 : decode cX8_goesWay 11 = .ok (.aload_n 0, 1) := by decide +kernel
theorem dX8_goesWay_12 : decode cX8_goesWay 12 = .ok (.iconst 0, 1) := by decide +kernel
theorem dX8_goesWay_13 : decode cX8_goesWay 13 = .ok (.putfield 230, 3) := by decide +kernel
theorem dX8_goesWay_16 : decode cX8_goesWay 16 = .ok (.iconst 1, 1) := by decide +kernel
theorem dX8_goesWay_17 : decode cX8_goesWay 17 = .ok (.istore_n 3, 1) := by decide +kernel
theorem dX8_goesWay_18 : decode cX8_goesWay 18 = .ok (.iconst 0, 1) := by decide +kernel
theorem dX8_goesWay_19 : decode cX8_goesWay 19 = .ok (.istore 4, 2) := by decide +kernel
theorem dX8_goesWay_21 : decode cX8_goesWay 21 = .ok (.iload 4, 2) := by decide +kernel
theorem dX8_goesWay_23 : decode cX8_goesWay 23 = .ok (.iload_n 2, 1) := by decide +kernel
theorem dX8_goesWay_24 : decode cX8_goesWay 24 = .ok (.if_icmp .ge 118, 3) := by decide +kernel
theorem dX8_goesWay_27 : decode cX8_goesWay 27 = .ok (.aload_n 0, 1) := by decide +kernel
theorem dX8_goesWay_28 : decode cX8_goesWay 28 = .ok (.iload_n 1, 1) := by decide +kernel
theorem dX8_goesWay_29 : decode cX8_goesWay 29 = .ok (.iload_n 2, 1) := by decide +kernel
theorem dX8_goesWay_30 : decode cX8_goesWay 30 = .ok (.iload 4, 2) := by decide +kernel
theorem dX8_goesWay_32 : decode cX8_goesWay 32 = .ok (.invokevirtual 233, 3) := by decide +kernel
theorem dX8_goesWay_35 : decode cX8_goesWay 35 = .ok (.istore 5, 2) := by decide +kernel
theorem dX8_goesWay_37 : decode cX8_goesWay 37 = .ok (.iload 5, 2) := by decide +kernel
theorem dX8_goesWay_39 : decode cX8_goesWay 39 = .ok (.ifCond .lt 64, 3) := by decide +kernel
theorem dX8_goesWay_42 : decode cX8_goesWay 42 = .ok (.aload_n 0, 1) := by decide +kernel
theorem dX8_goesWay_43 : decode cX8_goesWay 43 = .ok (.dup, 1) := by decide +kernel
theorem dX8_goesWay_44 : decode cX8_goesWay 44 = .ok (.getfield 227, 3) := by decide +kernel
theorem dX8_goesWay_47 : decode cX8_goesWay 47 = .ok (.iconst 1, 1) := by decide +kernel
theorem dX8_goesWay_48 : decode cX8_goesWay 48 = .ok (.aload_n 0, 1) := by decide +kernel
theorem dX8_goesWay_49 : decode cX8_goesWay 49 = .ok (.getfield 7, 3) := by decide +kernel
theorem dX8_goesWay_52 : decode cX8_goesWay 52 = .ok (.bipush 19, 2) := by decide +kernel
theorem dX8_goesWay_54 : decode cX8_goesWay 54 = .ok (.iload 5, 2) := by decide +kernel
theorem dX8_goesWay_56 : decode cX8_goesWay 56 = .ok (.iadd, 1) := by decide +kernel
theorem dX8_goesWay_57 : decode cX8_goesWay 57 = .ok (.iaload, 1) := by decide +kernel
theorem dX8_goesWay_58 : decode cX8_goesWay 58 = .ok (.ishl, 1) := by decide +kernel
theorem dX8_goesWay_59 : decode cX8_goesWay 59 = .ok (.ixor, 1) := by decide +kernel
theorem dX8_goesWay_60 : decode cX8_goesWay 60 = .ok (.putfield 227, 3) := by decide +kernel
theorem dX8_goesWay_63 : decode cX8_goesWay 63 = .ok (.aload_n 0, 1) := by decide +kernel
theorem dX8_goesWay_64 : decode cX8_goesWay 64 = .ok (.dup, 1) := by decide +kernel
theorem dX8_goesWay_65 : decode cX8_goesWay 65 = .ok (.getfield 230, 3) := by decide +kernel
theorem dX8_goesWay_68 : decode cX8_goesWay 68 = .ok (.aload_n 0, 1) := by decide +kernel
theorem dX8_goesWay_69 : decode cX8_goesWay 69 = .ok (.getfield 7, 3) := by decide +kernel
theorem dX8_goesWay_72 : decode cX8_goesWay 72 = .ok (.bipush 23, 2) := by decide +kernel
theorem dX8_goesWay_74 : decode cX8_goesWay 74 = .ok (.iload 5, 2) := by decide +kernel
theorem dX8_goesWay_76 : decode cX8_goesWay 76 = .ok (.iadd, 1) := by decide +kernel
theorem dX8_goesWay_77 : decode cX8_goesWay 77 = .ok (.iaload, 1) := by decide +kernel
theorem dX8_goesWay_78 : decode cX8_goesWay 78 = .ok (.iadd, 1) := by decide +kernel
theorem dX8_goesWay_79 : decode cX8_goesWay 79 = .ok (.putfield 230, 3) := by decide +kernel
theorem dX8_goesWay_82 : decode cX8_goesWay 82 = .ok (.iload_n 3, 1) := by decide +kernel
theorem dX8_goesWay_83 : decode cX8_goesWay 83 = .ok (.ifCond .eq 18, 3) := by decide +kernel
theorem dX8_goesWay_86 : decode cX8_goesWay 86 = .ok (.aload_n 0, 1) := by decide +kernel
theorem dX8_goesWay_87 : decode cX8_goesWay 87 = .ok (.aload_n 0, 1) := by decide +kernel
theorem dX8_goesWay_88 : decode cX8_goesWay 88 = .ok (.getfield 227, 3) := by decide +kernel
theorem dX8_goesWay_91 : decode cX8_goesWay 91 = .ok (.invokevirtual 153, 3) := by decide +kernel
theorem dX8_goesWay_94 : decode cX8_goesWay 94 = .ok (.ifCond .eq 7, 3) := by decide +kernel
theorem dX8_goesWay_97 : decode cX8_goesWay 97 = .ok (.iconst 1, 1) := by decide +kernel
theorem dX8_goesWay_98 : decode cX8_goesWay 98 = .ok (.goto 4, 3) := by decide +kernel
theorem dX8_goesWay_101 : decode cX8_goesWay 101 = .ok (.iconst 0, 1) := by decide +kernel
theorem dX8_goesWay_102 : decode cX8_goesWay 102 = .ok (.istore_n 3, 1) := by decide +kernel
theorem dX8_goesWay_103 : decode cX8_goesWay 103 = .ok (.aload_n 0, 1) := by decide +kernel
theorem dX8_goesWay_104 : decode cX8_goesWay 104 = .ok (.aload_n 0, 1) := by decide +kernel
theorem dX8_goesWay_105 : decode cX8_goesWay 105 = .ok (.aload_n 0, 1) := by decide +kernel
theorem dX8_goesWay_106 : decode cX8_goesWay 106 = .ok (.getfield 227, 3) := by decide +kernel
theorem dX8_goesWay_109 : decode cX8_goesWay 109 = .ok (.invokevirtual 147, 3) := by decide +kernel
theorem dX8_goesWay_112 : decode cX8_goesWay 112 = .ok (.putfield 227, 3) := by decide +kernel
theorem dX8_goesWay_115 : decode cX8_goesWay 115 = .ok (.iload_n 3, 1) := by decide +kernel
theorem dX8_goesWay_116 : decode cX8_goesWay 116 = .ok (.ifCond .eq 18, 3) := by decide +kernel
theorem dX8_goesWay_119 : decode cX8_goesWay 119 = .ok (.aload_n 0, 1) := by decide +kernel
theorem dX8_goesWay_120 : decode cX8_goesWay 120 = .ok (.aload_n 0, 1) := by decide +kernel
theorem dX8_goesWay_121 : decode cX8_goesWay 121 = .ok (.getfield 227, 3) := by decide +kernel
theorem dX8_goesWay_124 : decode cX8_goesWay 124 = .ok (.invokevirtual 153, 3) := by decide +kernel
theorem dX8_goesWay_127 : decode cX8_goesWay 127 = .ok (.ifCond .eq 7, 3) := by decide +kernel
theorem dX8_goesWay_130 : decode cX8_goesWay 130 = .ok (.iconst 1, 1) := by decide +kernel
theorem dX8_goesWay_131 : decode cX8_goesWay 131 = .ok (.goto 4, 3) := by decide +kernel
theorem dX8_goesWay_134 : decode cX8_goesWay 134 = .ok (.iconst 0, 1) := by decide +kernel
theorem dX8_goesWay_135 : decode cX8_goesWay 135 = .ok (.istore_n 3, 1) := by decide +kernel
theorem dX8_goesWay_136 : decode cX8_goesWay 136 = .ok (.iinc 4 1, 3) := by decide +kernel
theorem dX8_goesWay_139 : decode cX8_goesWay 139 = .ok (.goto (-118), 3) := by decide +kernel
theorem dX8_goesWay_142 : decode cX8_goesWay 142 = .ok (.iload_n 3, 1) := by decide +kernel
theorem dX8_goesWay_143 : decode cX8_goesWay 143 = .ok (.ireturn, 1) := by decide +kernel
theorem dX8_whoIn_0 : decode cX8_whoIn 0 = .ok (.iload_n 1, 1) := by decide +kernel
theorem dX8_whoIn_1 : decode cX8_whoIn 1 = .ok (.aload_n 0, 1) := by decide +kernel
theorem dX8_whoIn_2 : decode cX8_whoIn 2 = .ok (.iload_n 2, 1) := by decide +kernel
theorem dX8_whoIn_3 : decode cX8_whoIn 3 = .ok (.iconst 1, 1) := by decide +kernel
theorem dX8_whoIn_4 : decode cX8_whoIn 4 = .ok (.isub, 1) := by decide +kernel
theorem dX8_whoIn_5 : decode cX8_whoIn 5 = .ok (.iload_n 3, 1) := by decide +kernel
theorem dX8_whoIn_6 : decode cX8_whoIn 6 = .ok (.isub, 1) := by decide +kernel
theorem dX8_whoIn_7 : decode cX8_whoIn 7 = .ok (.invokevirtual 236, 3) := by decide +kernel
theorem dX8_whoIn_10 : decode cX8_whoIn 10 = .ok (.idiv, 1) := by decide +kernel
theorem dX8_whoIn_11 : decode cX8_whoIn 11 = .ok (.aload_n 0, 1) := by decide +kernel
theorem dX8_whoIn_12 : decode cX8_whoIn 12 = .ok (.getfield 128, 3) := by decide +kernel
theorem dX8_whoIn_15 : decode cX8_whoIn 15 = .ok (.iconst 1, 1) := by decide +kernel
theorem dX8_whoIn_16 : decode cX8_whoIn 16 = .ok (.iadd, 1) := by decide +kernel
theorem dX8_whoIn_17 : decode cX8_whoIn 17 = .ok (.irem, 1) := by decide +kernel
theorem dX8_whoIn_18 : decode cX8_whoIn 18 = .ok (.iconst 1, 1) := by decide +kernel
theorem dX8_whoIn_19 : decode cX8_whoIn 19 = .ok (.isub, 1) := by decide +kernel
theorem dX8_whoIn_20 : decode cX8_whoIn 20 = .ok (.ireturn, 1) := by decide +kernel
theorem dX8_powerOf_0 : decode cX8_powerOf 0 = .ok (.iconst 1, 1) := by decide +kernel
theorem dX8_powerOf_1 : decode cX8_powerOf 1 = .ok (.istore_n 2, 1) := by decide +kernel
theorem dX8_powerOf_2 : decode cX8_powerOf 2 = .ok (.iconst 0, 1) := by decide +kernel
theorem dX8_powerOf_3 : decode cX8_powerOf 3 = .ok (.istore_n 3, 1) := by decide +kernel
theorem dX8_powerOf_4 : decode cX8_powerOf 4 = .ok (.iload_n 3, 1) := by decide +kernel
theorem dX8_powerOf_5 : decode cX8_powerOf 5 = .ok (.iload_n 1, 1) := by decide +kernel
theorem dX8_powerOf_6 : decode cX8_powerOf 6 = .ok (.if_icmp .ge 18, 3) := by decide +kernel
theorem dX8_powerOf_9 : decode cX8_powerOf 9 = .ok (.iload_n 2, 1) := by decide +kernel
theorem dX8_powerOf_10 : decode cX8_powerOf 10 = .ok (.aload_n 0, 1) := by decide +kernel
theorem dX8_powerOf_11 : decode cX8_powerOf 11 = .ok (.getfield 128, 3) := by decide +kernel
theorem dX8_powerOf_14 : decode cX8_powerOf 14 = .ok (.iconst 1, 1) := by decide +kernel
theorem dX8_powerOf_15 : decode cX8_powerOf 15 = .ok (.iadd, 1) := by decide +kernel
theorem dX8_powerOf_16 : decode cX8_powerOf 16 = .ok (.imul, 1) := by decide +kernel
theorem dX8_powerOf_17 : decode cX8_powerOf 17 = .ok (.istore_n 2, 1) := by decide +kernel
theorem dX8_powerOf_18 : decode cX8_powerOf 18 = .ok (.iinc 3 1, 3) := by decide +kernel
theorem dX8_powerOf_21 : decode cX8_powerOf 21 = .ok (.goto (-17), 3) := by decide +kernel
theorem dX8_powerOf_24 : decode cX8_powerOf 24 = .ok (.iload_n 2, 1) := by decide +kernel
theorem dX8_powerOf_25 : decode cX8_powerOf 25 = .ok (.ireturn, 1) := by decide +kernel
theorem dX8_cheapest_0 : decode cX8_cheapest 0 = .ok (.aload_n 0, 1) := by decide +kernel
theorem dX8_cheapest_1 : decode cX8_cheapest 1 = .ok (.bipush (-4), 2) := by decide +kernel
theorem dX8_cheapest_3 : decode cX8_cheapest 3 = .ok (.putfield 239, 3) := by decide +kernel
theorem dX8_cheapest_6 : decode cX8_cheapest 6 = .ok (.aload_n 0, 1) := by decide +kernel
theorem dX8_cheapest_7 : decode cX8_cheapest 7 = .ok (.ldc 199, 2) := by decide +kernel
theorem dX8_cheapest_9 : decode cX8_cheapest 9 = .ok (.putfield 242, 3) := by decide +kernel
theorem dX8_cheapest_12 : decode cX8_cheapest 12 = .ok (.iconst 0, 1) := by decide +kernel
theorem dX8_cheapest_13 : decode cX8_cheapest 13 = .ok (.istore 4, 2) := by decide +kernel
theorem dX8_cheapest_15 : decode cX8_cheapest 15 = .ok (.iload 4, 2) := by decide +kernel
theorem dX8_cheapest_17 : decode cX8_cheapest 17 = .ok (.aload_n 0, 1) := by decide +kernel
theorem dX8_cheapest_18 : decode cX8_cheapest 18 = .ok (.iload_n 1, 1) := by decide +kernel
theorem dX8_cheapest_19 : decode cX8_cheapest 19 = .ok (.invokevirtual 236, 3) := by decide +kernel
theorem dX8_cheapest_22 : decode cX8_cheapest 22 = .ok (.if_icmp .ge 118, 3) := by decide +kernel
theorem dX8_cheapest_25 : decode cX8_cheapest 25 = .ok (.aload_n 0, 1) := by decide +kernel
theorem dX8_cheapest_26 : decode cX8_cheapest 26 = .ok (.iload 4, 2) := by decide +kernel
theorem dX8_cheapest_28 : decode cX8_cheapest 28 = .ok (.iload_n 1, 1) := by decide +kernel
theorem dX8_cheapest_29 : decode cX8_cheapest 29 = .ok (.invokevirtual 245, 3) := by decide +kernel
theorem dX8_cheapest_32 : decode cX8_cheapest 32 = .ok (.ifCond .eq 39, 3) := by decide +kernel
theorem dX8_cheapest_35 : decode cX8_cheapest 35 = .ok (.iload_n 2, 1) := by decide +kernel
theorem dX8_cheapest_36 : decode cX8_cheapest 36 = .ok (.bipush (-4), 2) := by decide +kernel
theorem dX8_cheapest_38 : decode cX8_cheapest 38 = .ok (.if_icmp .ne 17, 3) := by decide +kernel
theorem dX8_cheapest_41 : decode cX8_cheapest 41 = .ok (.aload_n 0, 1) := by decide +kernel
theorem dX8_cheapest_42 : decode cX8_cheapest 42 = .ok (.aload_n 0, 1) := by decide +kernel
theorem dX8_cheapest_43 : decode cX8_cheapest 43 = .ok (.getfield 227, 3) := by decide +kernel
theorem dX8_cheapest_46 : decode cX8_cheapest 46 = .ok (.invokevirtual 157, 3) := by decide +kernel
theorem dX8_cheapest_49 : decode cX8_cheapest 49 = .ok (.ifCond .eq 22, 3) := by decide +kernel
theorem dX8_cheapest_52 : decode cX8_cheapest 52 = .ok (.goto 15, 3) := by decide +kernel
theorem dX8_cheapest_55 : decode cX8_cheapest 55 = .ok (.aload_n 0, 1) := by decide +kernel
theorem dX8_cheapest_56 : decode cX8_cheapest 56 = .ok (.getfield 227, 3) := by decide +kernel
theorem dX8_cheapest_59 : decode cX8_cheapest 59 = .ok (.iload_n 2, 1) := by decide +kernel
theorem dX8_cheapest_60 : decode cX8_cheapest 60 = .ok (.ishr, 1) := by decide +kernel
theorem dX8_cheapest_61 : decode cX8_cheapest 61 = .ok (.iconst 1, 1) := by decide +kernel
theorem dX8_cheapest_62 : decode cX8_cheapest 62 = .ok (.iand, 1) := by decide +kernel
theorem dX8_cheapest_63 : decode cX8_cheapest 63 = .ok (.iload_n 3, 1) := by decide +kernel
theorem dX8_cheapest_64 : decode cX8_cheapest 64 = .ok (.if_icmp .ne 7, 3) := by decide +kernel
theorem dX8_cheapest_67 : decode cX8_cheapest 67 = .ok (.iconst 1, 1) := by decide +kernel
theorem dX8_cheapest_68 : decode cX8_cheapest 68 = .ok (.goto 4, 3) := by decide +kernel
theorem dX8_cheapest_71 : decode cX8_cheapest 71 = .ok (.iconst 0, 1) := by decide +kernel
theorem dX8_cheapest_72 : decode cX8_cheapest 72 = .ok (.istore 5, 2) := by decide +kernel
theorem dX8_cheapest_74 : decode cX8_cheapest 74 = .ok (.aload_n 0, 1) := by decide +kernel
theorem dX8_cheapest_75 : decode cX8_cheapest 75 = .ok (.iload 5, 2) := by decide +kernel
theorem dX8_cheapest_77 : decode cX8_cheapest 77 = .ok (.ifCond .eq 19, 3) := by decide +kernel
theorem dX8_cheapest_80 : decode cX8_cheapest 80 = .ok (.aload_n 0, 1) := by decide +kernel
theorem dX8_cheapest_81 : decode cX8_cheapest 81 = .ok (.getfield 230, 3) := by decide +kernel
theorem dX8_cheapest_84 : decode cX8_cheapest 84 = .ok (.aload_n 0, 1) := by decide +kernel
theorem dX8_cheapest_85 : decode cX8_cheapest 85 = .ok (.getfield 242, 3) := by decide +kernel
theorem dX8_cheapest_88 : decode cX8_cheapest 88 = .ok (.if_icmp .ge 8, 3) := by decide +kernel
theorem dX8_cheapest_91 : decode cX8_cheapest 91 = .ok (.iload 4, 2) := by decide +kernel
theorem dX8_cheapest_93 : decode cX8_cheapest 93 = .ok (.goto 7, 3) := by decide +kernel
theorem dX8_cheapest_96 : decode cX8_cheapest 96 = .ok (.aload_n 0, 1) := by decide +kernel
theorem dX8_cheapest_97 : decode cX8_cheapest 97 = .ok (.getfield 239, 3) := by decide +kernel
theorem dX8_cheapest_100 : decode cX8_cheapest 100 = .ok (.putfield 239, 3) := by decide +kernel
theorem dX8_cheapest_103 : decode cX8_cheapest 103 = .ok (.aload_n 0, 1) := by decide +kernel
theorem dX8_cheapest_104 : decode cX8_cheapest 104 = .ok (.iload 5, 2) := by decide +kernel
theorem dX8_cheapest_106 : decode cX8_cheapest 106 = .ok (.ifCond .eq 21, 3) := by decide +kernel
theorem dX8_cheapest_109 : decode cX8_cheapest 109 = .ok (.aload_n 0, 1) := by decide +kernel
theorem dX8_cheapest_110 : decode cX8_cheapest 110 = .ok (.getfield 230, 3) := by decide +kernel
theorem dX8_cheapest_113 : decode cX8_cheapest 113 = .ok (.aload_n 0, 1) := by decide +kernel
theorem dX8_cheapest_114 : decode cX8_cheapest 114 = .ok (.getfield 242, 3) := by decide +kernel
theorem dX8_cheapest_117 : decode cX8_cheapest 117 = .ok (.if_icmp .ge 10, 3) := by decide +kernel
theorem dX8_cheapest_120 : decode cX8_cheapest 120 = .ok (.aload_n 0, 1) := by decide +kernel
theorem dX8_cheapest_121 : decode cX8_cheapest 121 = .ok (.getfield 230, 3) := by decide +kernel
theorem dX8_cheapest_124 : decode cX8_cheapest 124 = .ok (.goto 7, 3) := by decide +kernel
theorem dX8_cheapest_127 : decode cX8_cheapest 127 = .ok (.aload_n 0, 1) := by decide +kernel
theorem dX8_cheapest_128 : decode cX8_cheapest 128 = .ok (.getfield 242, 3) := by decide +kernel
theorem dX8_cheapest_131 : decode cX8_cheapest 131 = .ok (.putfield 242, 3) := by decide +kernel
theorem dX8_cheapest_134 : decode cX8_cheapest 134 = .ok (.iinc 4 1, 3) := by decide +kernel
theorem dX8_cheapest_137 : decode cX8_cheapest 137 = .ok (.goto (-122), 3) := by decide +kernel
theorem dX8_cheapest_140 : decode cX8_cheapest 140 = .ok (.return_, 1) := by decide +kernel
theorem dX8_toldWay_0 : decode cX8_toldWay 0 = .ok (.aload_n 0, 1) := by decide +kernel
theorem dX8_toldWay_1 : decode cX8_toldWay 1 = .ok (.getfield 239, 3) := by decide +kernel
theorem dX8_toldWay_4 : decode cX8_toldWay 4 = .ok (.bipush (-4), 2) := by decide +kernel
theorem dX8_toldWay_6 : decode cX8_toldWay 6 = .ok (.if_icmp .eq 8, 3) := by decide +kernel
theorem dX8_toldWay_9 : decode cX8_toldWay 9 = .ok (.iload_n 2, 1) := by decide +kernel
theorem dX8_toldWay_10 : decode cX8_toldWay 10 = .ok (.iload_n 1, 1) := by decide +kernel
theorem dX8_toldWay_11 : decode cX8_toldWay 11 = .ok (.if_icmp .lt 6, 3) := by decide +kernel
theorem dX8_toldWay_14 : decode cX8_toldWay 14 = .ok (.bipush (-4), 2) := by decide +kernel
theorem dX8_toldWay_16 : decode cX8_toldWay 16 = .ok (.ireturn, 1) := by decide +kernel
theorem dX8_toldWay_17 : decode cX8_toldWay 17 = .ok (.aload_n 0, 1) := by decide +kernel
theorem dX8_toldWay_18 : decode cX8_toldWay 18 = .ok (.aload_n 0, 1) := by decide +kernel
theorem dX8_toldWay_19 : decode cX8_toldWay 19 = .ok (.getfield 239, 3) := by decide +kernel
theorem dX8_toldWay_22 : decode cX8_toldWay 22 = .ok (.iload_n 1, 1) := by decide +kernel
theorem dX8_toldWay_23 : decode cX8_toldWay 23 = .ok (.iload_n 2, 1) := by decide +kernel
theorem dX8_toldWay_24 : decode cX8_toldWay 24 = .ok (.invokevirtual 233, 3) := by decide +kernel
theorem dX8_toldWay_27 : decode cX8_toldWay 27 = .ok (.istore_n 3, 1) := by decide +kernel
theorem dX8_toldWay_28 : decode cX8_toldWay 28 = .ok (.iload_n 3, 1) := by decide +kernel
theorem dX8_toldWay_29 : decode cX8_toldWay 29 = .ok (.ifCond .ge 8, 3) := by decide +kernel
theorem dX8_toldWay_32 : decode cX8_toldWay 32 = .ok (.bipush (-4), 2) := by decide +kernel
theorem dX8_toldWay_34 : decode cX8_toldWay 34 = .ok (.goto 4, 3) := by decide +kernel
theorem dX8_toldWay_37 : decode cX8_toldWay 37 = .ok (.iload_n 3, 1) := by decide +kernel
theorem dX8_toldWay_38 : decode cX8_toldWay 38 = .ok (.ireturn, 1) := by decide +kernel
theorem dX8_way_0 : decode cX8_way 0 = .ok (.aload_n 0, 1) := by decide +kernel
theorem dX8_way_1 : decode cX8_way 1 = .ok (.iload_n 1, 1) := by decide +kernel
theorem dX8_way_2 : decode cX8_way 2 = .ok (.invokevirtual 160, 3) := by decide +kernel
theorem dX8_way_5 : decode cX8_way 5 = .ok (.ifCond .eq 37, 3) := by decide +kernel
theorem dX8_way_8 : decode cX8_way 8 = .ok (.iload_n 2, 1) := by decide +kernel
theorem dX8_way_9 : decode cX8_way 9 = .ok (.i2l, 1) := by decide +kernel
theorem dX8_way_10 : decode cX8_way 10 = .ok (.lconst 0, 1) := by decide +kernel
theorem dX8_way_11 : decode cX8_way 11 = .ok (.lconst 1, 1) := by decide +kernel
theorem dX8_way_12 : decode cX8_way 12 = .ok (.invokestatic 46, 3) := by decide +kernel
theorem dX8_way_15 : decode cX8_way 15 = .ok (.ifCond .eq 27, 3) := by decide +kernel
theorem dX8_way_18 : decode cX8_way 18 = .ok (.iload_n 3, 1) := by decide +kernel
theorem dX8_way_19 : decode cX8_way 19 = .ok (.i2l, 1) := by decide +kernel
theorem dX8_way_20 : decode cX8_way 20 = .ok (.lconst 0, 1) := by decide +kernel
theorem dX8_way_21 : decode cX8_way 21 = .ok (.lconst 1, 1) := by decide +kernel
theorem dX8_way_22 : decode cX8_way 22 = .ok (.invokestatic 46, 3) := by decide +kernel
theorem dX8_way_25 : decode cX8_way 25 = .ok (.ifCond .ne 19, 3) := by decide +kernel
theorem dX8_way_28 : decode cX8_way 28 = .ok (.iload_n 3, 1) := by decide +kernel
theorem dX8_way_29 : decode cX8_way 29 = .ok (.i2l, 1) := by decide +kernel
theorem dX8_way_30 : decode cX8_way 30 = .ok (.ldc2_w 248, 3) := by decide +kernel
theorem dX8_way_33 : decode cX8_way 33 = .ok (.ldc2_w 250, 3) := by decide +kernel
theorem dX8_way_36 : decode cX8_way 36 = .ok (.invokestatic 46, 3) := by decide +kernel
theorem dX8_way_39 : decode cX8_way 39 = .ok (.ifCond .ne 5, 3) := by decide +kernel
theorem dX8_way_42 : decode cX8_way 42 = .ok (.iconst (-1), 1) := by decide +kernel
theorem dX8_way_43 : decode cX8_way 43 = .ok (.ireturn, 1) := by decide +kernel
theorem dX8_way_44 : decode cX8_way 44 = .ok (.iconst 0, 1) := by decide +kernel
theorem dX8_way_45 : decode cX8_way 45 = .ok (.istore 4, 2) := by decide +kernel
theorem dX8_way_47 : decode cX8_way 47 = .ok (.aload_n 0, 1) := by decide +kernel
theorem dX8_way_48 : decode cX8_way 48 = .ok (.iconst 0, 1) := by decide +kernel
theorem dX8_way_49 : decode cX8_way 49 = .ok (.iload_n 1, 1) := by decide +kernel
theorem dX8_way_50 : decode cX8_way 50 = .ok (.iload_n 2, 1) := by decide +kernel
theorem dX8_way_51 : decode cX8_way 51 = .ok (.invokevirtual 252, 3) := by decide +kernel
theorem dX8_way_54 : decode cX8_way 54 = .ok (.aload_n 0, 1) := by decide +kernel
theorem dX8_way_55 : decode cX8_way 55 = .ok (.getfield 239, 3) := by decide +kernel
theorem dX8_way_58 : decode cX8_way 58 = .ok (.bipush (-4), 2) := by decide +kernel
theorem dX8_way_60 : decode cX8_way 60 = .ok (.if_icmp .ne 23, 3) := by decide +kernel
theorem dX8_way_63 : decode cX8_way 63 = .ok (.iload 4, 2) := by decide +kernel
theorem dX8_way_65 : decode cX8_way 65 = .ok (.iconst 4, 1) := by decide +kernel
theorem dX8_way_66 : decode cX8_way 66 = .ok (.if_icmp .ge 17, 3) := by decide +kernel
theorem dX8_way_69 : decode cX8_way 69 = .ok (.iinc 4 1, 3) := by decide +kernel
theorem dX8_way_72 : decode cX8_way 72 = .ok (.aload_n 0, 1) := by decide +kernel
theorem dX8_way_73 : decode cX8_way 73 = .ok (.iload 4, 2) := by decide +kernel
theorem dX8_way_75 : decode cX8_way 75 = .ok (.iload_n 1, 1) := by decide +kernel
theorem dX8_way_76 : decode cX8_way 76 = .ok (.iload_n 2, 1) := by decide +kernel
theorem dX8_way_77 : decode cX8_way 77 = .ok (.invokevirtual 252, 3) := by decide +kernel
theorem dX8_way_80 : decode cX8_way 80 = .ok (.goto (-26), 3) := by decide +kernel
theorem dX8_way_83 : decode cX8_way 83 = .ok (.aload_n 0, 1) := by decide +kernel
theorem dX8_way_84 : decode cX8_way 84 = .ok (.getfield 239, 3) := by decide +kernel
theorem dX8_way_87 : decode cX8_way 87 = .ok (.bipush (-4), 2) := by decide +kernel
theorem dX8_way_89 : decode cX8_way 89 = .ok (.if_icmp .ne 6, 3) := by decide +kernel
theorem dX8_way_92 : decode cX8_way 92 = .ok (.bipush (-4), 2) := by decide +kernel
theorem dX8_way_94 : decode cX8_way 94 = .ok (.ireturn, 1) := by decide +kernel
theorem dX8_way_95 : decode cX8_way 95 = .ok (.iload_n 3, 1) := by decide +kernel
theorem dX8_way_96 : decode cX8_way 96 = .ok (.ifCond .ne 8, 3) := by decide +kernel
theorem dX8_way_99 : decode cX8_way 99 = .ok (.iload 4, 2) := by decide +kernel
theorem dX8_way_101 : decode cX8_way 101 = .ok (.goto 25, 3) := by decide +kernel
theorem dX8_way_104 : decode cX8_way 104 = .ok (.iload_n 3, 1) := by decide +kernel
theorem dX8_way_105 : decode cX8_way 105 = .ok (.iconst 1, 1) := by decide +kernel
theorem dX8_way_106 : decode cX8_way 106 = .ok (.if_icmp .ne 10, 3) := by decide +kernel
theorem dX8_way_109 : decode cX8_way 109 = .ok (.aload_n 0, 1) := by decide +kernel
theorem dX8_way_110 : decode cX8_way 110 = .ok (.getfield 242, 3) := by decide +kernel
theorem dX8_way_113 : decode cX8_way 113 = .ok (.goto 13, 3) := by decide +kernel
theorem dX8_way_116 : decode cX8_way 116 = .ok (.aload_n 0, 1) := by decide +kernel
theorem dX8_way_117 : decode cX8_way 117 = .ok (.iload 4, 2) := by decide +kernel
theorem dX8_way_119 : decode cX8_way 119 = .ok (.iload_n 3, 1) := by decide +kernel
theorem dX8_way_120 : decode cX8_way 120 = .ok (.bipush 10, 2) := by decide +kernel
theorem dX8_way_122 : decode cX8_way 122 = .ok (.isub, 1) := by decide +kernel
theorem dX8_way_123 : decode cX8_way 123 = .ok (.invokevirtual 256, 3) := by decide +kernel
theorem dX8_way_126 : decode cX8_way 126 = .ok (.ireturn, 1) := by decide +kernel
theorem dX8_peace_0 : decode cX8_peace 0 = .ok (.iload_n 1, 1) := by decide +kernel
theorem dX8_peace_1 : decode cX8_peace 1 = .ok (.i2l, 1) := by decide +kernel
theorem dX8_peace_2 : decode cX8_peace 2 = .ok (.lconst 0, 1) := by decide +kernel
theorem dX8_peace_3 : decode cX8_peace 3 = .ok (.ldc2_w 171, 3) := by decide +kernel
theorem dX8_peace_6 : decode cX8_peace 6 = .ok (.invokestatic 46, 3) := by decide +kernel
theorem dX8_peace_9 : decode cX8_peace 9 = .ok (.ifCond .eq 21, 3) := by decide +kernel
theorem dX8_peace_12 : decode cX8_peace 12 = .ok (.iload_n 2, 1) := by decide +kernel
theorem dX8_peace_13 : decode cX8_peace 13 = .ok (.ifCond .eq 19, 3) := by decide +kernel
theorem dX8_peace_16 : decode cX8_peace 16 = .ok (.iload_n 2, 1) := by decide +kernel
theorem dX8_peace_17 : decode cX8_peace 17 = .ok (.i2l, 1) := by decide +kernel
theorem dX8_peace_18 : decode cX8_peace 18 = .ok (.ldc2_w 248, 3) := by decide +kernel
theorem dX8_peace_21 : decode cX8_peace 21 = .ok (.ldc2_w 250, 3) := by decide +kernel
theorem dX8_peace_24 : decode cX8_peace 24 = .ok (.invokestatic 46, 3) := by decide +kernel
theorem dX8_peace_27 : decode cX8_peace 27 = .ok (.ifCond .ne 5, 3) := by decide +kernel
theorem dX8_peace_30 : decode cX8_peace 30 = .ok (.iconst (-1), 1) := by decide +kernel
theorem dX8_peace_31 : decode cX8_peace 31 = .ok (.ireturn, 1) := by decide +kernel
theorem dX8_peace_32 : decode cX8_peace 32 = .ok (.aload_n 0, 1) := by decide +kernel
theorem dX8_peace_33 : decode cX8_peace 33 = .ok (.iload_n 1, 1) := by decide +kernel
theorem dX8_peace_34 : decode cX8_peace 34 = .ok (.bipush (-4), 2) := by decide +kernel
theorem dX8_peace_36 : decode cX8_peace 36 = .ok (.iconst 0, 1) := by decide +kernel
theorem dX8_peace_37 : decode cX8_peace 37 = .ok (.invokevirtual 252, 3) := by decide +kernel
theorem dX8_peace_40 : decode cX8_peace 40 = .ok (.iload_n 2, 1) := by decide +kernel
theorem dX8_peace_41 : decode cX8_peace 41 = .ok (.ifCond .eq 15, 3) := by decide +kernel
theorem dX8_peace_44 : decode cX8_peace 44 = .ok (.aload_n 0, 1) := by decide +kernel
theorem dX8_peace_45 : decode cX8_peace 45 = .ok (.iload_n 1, 1) := by decide +kernel
theorem dX8_peace_46 : decode cX8_peace 46 = .ok (.iload_n 2, 1) := by decide +kernel
theorem dX8_peace_47 : decode cX8_peace 47 = .ok (.bipush 10, 2) := by decide +kernel
theorem dX8_peace_49 : decode cX8_peace 49 = .ok (.isub, 1) := by decide +kernel
theorem dX8_peace_50 : decode cX8_peace 50 = .ok (.invokevirtual 256, 3) := by decide +kernel
theorem dX8_peace_53 : decode cX8_peace 53 = .ok (.goto 21, 3) := by decide +kernel
theorem dX8_peace_56 : decode cX8_peace 56 = .ok (.aload_n 0, 1) := by decide +kernel
theorem dX8_peace_57 : decode cX8_peace 57 = .ok (.getfield 239, 3) := by decide +kernel
theorem dX8_peace_60 : decode cX8_peace 60 = .ok (.bipush (-4), 2) := by decide +kernel
theorem dX8_peace_62 : decode cX8_peace 62 = .ok (.if_icmp .ne 8, 3) := by decide +kernel
theorem dX8_peace_65 : decode cX8_peace 65 = .ok (.bipush (-4), 2) := by decide +kernel
theorem dX8_peace_67 : decode cX8_peace 67 = .ok (.goto 7, 3) := by decide +kernel
theorem dX8_peace_70 : decode cX8_peace 70 = .ok (.aload_n 0, 1) := by decide +kernel
theorem dX8_peace_71 : decode cX8_peace 71 = .ok (.getfield 242, 3) := by decide +kernel
theorem dX8_peace_74 : decode cX8_peace 74 = .ok (.ireturn, 1) := by decide +kernel
theorem dX8_amend_0 : decode cX8_amend 0 = .ok (.iload_n 1, 1) := by decide +kernel
theorem dX8_amend_1 : decode cX8_amend 1 = .ok (.i2l, 1) := by decide +kernel
theorem dX8_amend_2 : decode cX8_amend 2 = .ok (.lconst 0, 1) := by decide +kernel
theorem dX8_amend_3 : decode cX8_amend 3 = .ok (.lconst 1, 1) := by decide +kernel
theorem dX8_amend_4 : decode cX8_amend 4 = .ok (.invokestatic 46, 3) := by decide +kernel
theorem dX8_amend_7 : decode cX8_amend 7 = .ok (.ifCond .ne 5, 3) := by decide +kernel
theorem dX8_amend_10 : decode cX8_amend 10 = .ok (.iconst (-1), 1) := by decide +kernel
theorem dX8_amend_11 : decode cX8_amend 11 = .ok (.ireturn, 1) := by decide +kernel
theorem dX8_amend_12 : decode cX8_amend 12 = .ok (.aload_n 0, 1) := by decide +kernel
theorem dX8_amend_13 : decode cX8_amend 13 = .ok (.invokevirtual 218, 3) := by decide +kernel
theorem dX8_amend_16 : decode cX8_amend 16 = .ok (.istore_n 2, 1) := by decide +kernel
theorem dX8_amend_17 : decode cX8_amend 17 = .ok (.bipush (-4), 2) := by decide +kernel
theorem dX8_amend_19 : decode cX8_amend 19 = .ok (.istore_n 3, 1) := by decide +kernel
theorem dX8_amend_20 : decode cX8_amend 20 = .ok (.iconst 0, 1) := by decide +kernel
theorem dX8_amend_21 : decode cX8_amend 21 = .ok (.istore 4, 2) := by decide +kernel
theorem dX8_amend_23 : decode cX8_amend 23 = .ok (.iload 4, 2) := by decide +kernel
theorem dX8_amend_25 : decode cX8_amend 25 = .ok (.aload_n 0, 1) := by decide +kernel
theorem dX8_amend_26 : decode cX8_amend 26 = .ok (.getfield 125, 3) := by decide +kernel
theorem dX8_amend_29 : decode cX8_amend 29 = .ok (.if_icmp .ge 104, 3) := by decide +kernel
theorem dX8_amend_32 : decode cX8_amend 32 = .ok (.aload_n 0, 1) := by decide +kernel
theorem dX8_amend_33 : decode cX8_amend 33 = .ok (.getfield 7, 3) := by decide +kernel
theorem dX8_amend_36 : decode cX8_amend 36 = .ok (.bipush 6, 2) := by decide +kernel
theorem dX8_amend_38 : decode cX8_amend 38 = .ok (.iload 4, 2) := by decide +kernel
theorem dX8_amend_40 : decode cX8_amend 40 = .ok (.iadd, 1) := by decide +kernel
theorem dX8_amend_41 : decode cX8_amend 41 = .ok (.iaload, 1) := by decide +kernel
theorem dX8_amend_42 : decode cX8_amend 42 = .ok (.istore 5, 2) := by decide +kernel
theorem dX8_amend_44 : decode cX8_amend 44 = .ok (.iconst 0, 1) := by decide +kernel
theorem dX8_amend_45 : decode cX8_amend 45 = .ok (.istore 6, 2) := by decide +kernel
theorem dX8_amend_47 : decode cX8_amend 47 = .ok (.iload 6, 2) := by decide +kernel
theorem dX8_amend_49 : decode cX8_amend 49 = .ok (.aload_n 0, 1) := by decide +kernel
theorem dX8_amend_50 : decode cX8_amend 50 = .ok (.getfield 125, 3) := by decide +kernel
theorem dX8_amend_53 : decode cX8_amend 53 = .ok (.if_icmp .ge 62, 3) := by decide +kernel
theorem dX8_amend_56 : decode cX8_amend 56 = .ok (.aload_n 0, 1) := by decide +kernel
theorem dX8_amend_57 : decode cX8_amend 57 = .ok (.getfield 7, 3) := by decide +kernel
theorem dX8_amend_60 : decode cX8_amend 60 = .ok (.bipush 6, 2) := by decide +kernel
theorem dX8_amend_62 : decode cX8_amend 62 = .ok (.iload 4, 2) := by decide +kernel
theorem dX8_amend_64 : decode cX8_amend 64 = .ok (.iadd, 1) := by decide +kernel
theorem dX8_amend_65 : decode cX8_amend 65 = .ok (.iload 6, 2) := by decide +kernel
theorem dX8_amend_67 : decode cX8_amend 67 = .ok (.iload 4, 2) := by decide +kernel
theorem dX8_amend_69 : decode cX8_amend 69 = .ok (.isub, 1) := by decide +kernel
theorem dX8_amend_70 : decode cX8_amend 70 = .ok (.iastore, 1) := by decide +kernel
theorem dX8_amend_71 : decode cX8_amend 71 = .ok (.aload_n 0, 1) := by decide +kernel
theorem dX8_amend_72 : decode cX8_amend 72 = .ok (.invokevirtual 218, 3) := by decide +kernel
theorem dX8_amend_75 : decode cX8_amend 75 = .ok (.istore 7, 2) := by decide +kernel
theorem dX8_amend_77 : decode cX8_amend 77 = .ok (.iload 7, 2) := by decide +kernel
theorem dX8_amend_79 : decode cX8_amend 79 = .ok (.iload_n 2, 1) := by decide +kernel
theorem dX8_amend_80 : decode cX8_amend 80 = .ok (.if_icmp .le 14, 3) := by decide +kernel
theorem dX8_amend_83 : decode cX8_amend 83 = .ok (.bipush 10, 2) := by decide +kernel
theorem dX8_amend_85 : decode cX8_amend 85 = .ok (.iload 4, 2) := by decide +kernel
theorem dX8_amend_87 : decode cX8_amend 87 = .ok (.imul, 1) := by decide +kernel
theorem dX8_amend_88 : decode cX8_amend 88 = .ok (.iload 6, 2) := by decide +kernel
theorem dX8_amend_90 : decode cX8_amend 90 = .ok (.iadd, 1) := by decide +kernel
theorem dX8_amend_91 : decode cX8_amend 91 = .ok (.goto 4, 3) := by decide +kernel
theorem dX8_amend_94 : decode cX8_amend 94 = .ok (.iload_n 3, 1) := by decide +kernel
theorem dX8_amend_95 : decode cX8_amend 95 = .ok (.istore_n 3, 1) := by decide +kernel
theorem dX8_amend_96 : decode cX8_amend 96 = .ok (.iload 7, 2) := by decide +kernel
theorem dX8_amend_98 : decode cX8_amend 98 = .ok (.iload_n 2, 1) := by decide +kernel
theorem dX8_amend_99 : decode cX8_amend 99 = .ok (.if_icmp .le 8, 3) := by decide +kernel
theorem dX8_amend_102 : decode cX8_amend 102 = .ok (.iload 7, 2) := by decide +kernel
theorem dX8_amend_104 : decode cX8_amend 104 = .ok (.goto 4, 3) := by decide +kernel
theorem dX8_amend_107 : decode cX8_amend 107 = .ok (.iload_n 2, 1) := by decide +kernel
theorem dX8_amend_108 : decode cX8_amend 108 = .ok (.istore_n 2, 1) := by decide +kernel
theorem dX8_amend_109 : decode cX8_amend 109 = .ok (.iinc 6 1, 3) := by decide +kernel
theorem dX8_amend_112 : decode cX8_amend 112 = .ok (.goto (-65), 3) := by decide +kernel
theorem dX8_amend_115 : decode cX8_amend 115 = .ok (.aload_n 0, 1) := by decide +kernel
theorem dX8_amend_116 : decode cX8_amend 116 = .ok (.getfield 7, 3) := by decide +kernel
theorem dX8_amend_119 : decode cX8_amend 119 = .ok (.bipush 6, 2) := by decide +kernel
theorem dX8_amend_121 : decode cX8_amend 121 = .ok (.iload 4, 2) := by decide +kernel
theorem dX8_amend_123 : decode cX8_amend 123 = .ok (.iadd, 1) := by decide +kernel
theorem dX8_amend_124 : decode cX8_amend 124 = .ok (.iload 5, 2) := by decide +kernel
theorem dX8_amend_126 : decode cX8_amend 126 = .ok (.iastore, 1) := by decide +kernel
theorem dX8_amend_127 : decode cX8_amend 127 = .ok (.iinc 4 1, 3) := by decide +kernel
theorem dX8_amend_130 : decode cX8_amend 130 = .ok (.goto (-107), 3) := by decide +kernel
theorem dX8_amend_133 : decode cX8_amend 133 = .ok (.iload_n 3, 1) := by decide +kernel
theorem dX8_amend_134 : decode cX8_amend 134 = .ok (.bipush (-4), 2) := by decide +kernel
theorem dX8_amend_136 : decode cX8_amend 136 = .ok (.if_icmp .eq 7, 3) := by decide +kernel
theorem dX8_amend_139 : decode cX8_amend 139 = .ok (.iload_n 1, 1) := by decide +kernel
theorem dX8_amend_140 : decode cX8_amend 140 = .ok (.ifCond .ne 7, 3) := by decide +kernel
theorem dX8_amend_143 : decode cX8_amend 143 = .ok (.iload_n 3, 1) := by decide +kernel
theorem dX8_amend_144 : decode cX8_amend 144 = .ok (.goto 4, 3) := by decide +kernel
theorem dX8_amend_147 : decode cX8_amend 147 = .ok (.iload_n 2, 1) := by decide +kernel
theorem dX8_amend_148 : decode cX8_amend 148 = .ok (.ireturn, 1) := by decide +kernel
theorem dX8_strict_0 : decode cX8_strict 0 = .ok (.iload_n 1, 1) := by decide +kernel
theorem dX8_strict_1 : decode cX8_strict 1 = .ok (.i2l, 1) := by decide +kernel
theorem dX8_strict_2 : decode cX8_strict 2 = .ok (.lconst 0, 1) := by decide +kernel
theorem dX8_strict_3 : decode cX8_strict 3 = .ok (.lconst 1, 1) := by decide +kernel
theorem dX8_strict_4 : decode cX8_strict 4 = .ok (.invokestatic 46, 3) := by decide +kernel
theorem dX8_strict_7 : decode cX8_strict 7 = .ok (.ifCond .ne 5, 3) := by decide +kernel
theorem dX8_strict_10 : decode cX8_strict 10 = .ok (.iconst (-1), 1) := by decide +kernel
theorem dX8_strict_11 : decode cX8_strict 11 = .ok (.ireturn, 1) := by decide +kernel
theorem dX8_strict_12 : decode cX8_strict 12 = .ok (.aload_n 0, 1) := by decide +kernel
theorem dX8_strict_13 : decode cX8_strict 13 = .ok (.invokevirtual 218, 3) := by decide +kernel
theorem dX8_strict_16 : decode cX8_strict 16 = .ok (.istore_n 2, 1) := by decide +kernel
theorem dX8_strict_17 : decode cX8_strict 17 = .ok (.bipush (-4), 2) := by decide +kernel
theorem dX8_strict_19 : decode cX8_strict 19 = .ok (.istore_n 3, 1) := by decide +kernel
theorem dX8_strict_20 : decode cX8_strict 20 = .ok (.iconst 0, 1) := by decide +kernel
theorem dX8_strict_21 : decode cX8_strict 21 = .ok (.istore 4, 2) := by decide +kernel
theorem dX8_strict_23 : decode cX8_strict 23 = .ok (.iload 4, 2) := by decide +kernel
theorem dX8_strict_25 : decode cX8_strict 25 = .ok (.aload_n 0, 1) := by decide +kernel
theorem dX8_strict_26 : decode cX8_strict 26 = .ok (.getfield 125, 3) := by decide +kernel
theorem dX8_strict_29 : decode cX8_strict 29 = .ok (.if_icmp .ge 155, 3) := by decide +kernel
theorem dX8_strict_32 : decode cX8_strict 32 = .ok (.iload 4, 2) := by decide +kernel
theorem dX8_strict_34 : decode cX8_strict 34 = .ok (.iconst 1, 1) := by decide +kernel
theorem dX8_strict_35 : decode cX8_strict 35 = .ok (.iadd, 1) := by decide +kernel
theorem dX8_strict_36 : decode cX8_strict 36 = .ok (.istore 5, 2) := by decide +kernel
theorem dX8_strict_38 : decode cX8_strict 38 = .ok (.iload 5, 2) := by decide +kernel
theorem dX8_strict_40 : decode cX8_strict 40 = .ok (.aload_n 0, 1) := by decide +kernel
theorem dX8_strict_41 : decode cX8_strict 41 = .ok (.getfield 125, 3) := by decide +kernel
theorem dX8_strict_44 : decode cX8_strict 44 = .ok (.if_icmp .ge 134, 3) := by decide +kernel
theorem dX8_strict_47 : decode cX8_strict 47 = .ok (.iconst 0, 1) := by decide +kernel
theorem dX8_strict_48 : decode cX8_strict 48 = .ok (.istore 6, 2) := by decide +kernel
theorem dX8_strict_50 : decode cX8_strict 50 = .ok (.iconst 0, 1) := by decide +kernel
theorem dX8_strict_51 : decode cX8_strict 51 = .ok (.istore 7, 2) := by decide +kernel
theorem dX8_strict_53 : decode cX8_strict 53 = .ok (.iload 7, 2) := by decide +kernel
theorem dX8_strict_55 : decode cX8_strict 55 = .ok (.aload_n 0, 1) := by decide +kernel
theorem dX8_strict_56 : decode cX8_strict 56 = .ok (.invokevirtual 134, 3) := by decide +kernel
theorem dX8_strict_59 : decode cX8_strict 59 = .ok (.if_icmp .ge 71, 3) := by decide +kernel
theorem dX8_strict_62 : decode cX8_strict 62 = .ok (.iload 7, 2) := by decide +kernel
theorem dX8_strict_64 : decode cX8_strict 64 = .ok (.iload 4, 2) := by decide +kernel
theorem dX8_strict_66 : decode cX8_strict 66 = .ok (.ishr, 1) := by decide +kernel
theorem dX8_strict_67 : decode cX8_strict 67 = .ok (.iconst 1, 1) := by decide +kernel
theorem dX8_strict_68 : decode cX8_strict 68 = .ok (.iand, 1) := by decide +kernel
theorem dX8_strict_69 : decode cX8_strict 69 = .ok (.iconst 1, 1) := by decide +kernel
theorem dX8_strict_70 : decode cX8_strict 70 = .ok (.if_icmp .ne 18, 3) := by decide +kernel
theorem dX8_strict_73 : decode cX8_strict 73 = .ok (.iload 7, 2) := by decide +kernel
theorem dX8_strict_75 : decode cX8_strict 75 = .ok (.iload 5, 2) := by decide +kernel
theorem dX8_strict_77 : decode cX8_strict 77 = .ok (.ishr, 1) := by decide +kernel
theorem dX8_strict_78 : decode cX8_strict 78 = .ok (.iconst 1, 1) := by decide +kernel
theorem dX8_strict_79 : decode cX8_strict 79 = .ok (.iand, 1) := by decide +kernel
theorem dX8_strict_80 : decode cX8_strict 80 = .ok (.iconst 1, 1) := by decide +kernel
theorem dX8_strict_81 : decode cX8_strict 81 = .ok (.if_icmp .ne 7, 3) := by decide +kernel
theorem dX8_strict_84 : decode cX8_strict 84 = .ok (.iconst 1, 1) := by decide +kernel
theorem dX8_strict_85 : decode cX8_strict 85 = .ok (.goto 4, 3) := by decide +kernel
theorem dX8_strict_88 : decode cX8_strict 88 = .ok (.iconst 0, 1) := by decide +kernel
theorem dX8_strict_89 : decode cX8_strict 89 = .ok (.istore 8, 2) := by decide +kernel
theorem dX8_strict_91 : decode cX8_strict 91 = .ok (.iload 6, 2) := by decide +kernel
theorem dX8_strict_93 : decode cX8_strict 93 = .ok (.iload 8, 2) := by decide +kernel
theorem dX8_strict_95 : decode cX8_strict 95 = .ok (.ifCond .ne 25, 3) := by decide +kernel
theorem dX8_strict_98 : decode cX8_strict 98 = .ok (.aload_n 0, 1) := by decide +kernel
theorem dX8_strict_99 : decode cX8_strict 99 = .ok (.iload 7, 2) := by decide +kernel
theorem dX8_strict_101 : decode cX8_strict 101 = .ok (.invokevirtual 157, 3) := by decide +kernel
theorem dX8_strict_104 : decode cX8_strict 104 = .ok (.ifCond .eq 16, 3) := by decide +kernel
theorem dX8_strict_107 : decode cX8_strict 107 = .ok (.aload_n 0, 1) := by decide +kernel
theorem dX8_strict_108 : decode cX8_strict 108 = .ok (.iload 7, 2) := by decide +kernel
theorem dX8_strict_110 : decode cX8_strict 110 = .ok (.invokevirtual 153, 3) := by decide +kernel
theorem dX8_strict_113 : decode cX8_strict 113 = .ok (.ifCond .eq 7, 3) := by decide +kernel
theorem dX8_strict_116 : decode cX8_strict 116 = .ok (.iconst 1, 1) := by decide +kernel
theorem dX8_strict_117 : decode cX8_strict 117 = .ok (.goto 4, 3) := by decide +kernel
theorem dX8_strict_120 : decode cX8_strict 120 = .ok (.iconst 0, 1) := by decide +kernel
theorem dX8_strict_121 : decode cX8_strict 121 = .ok (.iadd, 1) := by decide +kernel
theorem dX8_strict_122 : decode cX8_strict 122 = .ok (.istore 6, 2) := by decide +kernel
theorem dX8_strict_124 : decode cX8_strict 124 = .ok (.iinc 7 1, 3) := by decide +kernel
theorem dX8_strict_127 : decode cX8_strict 127 = .ok (.goto (-74), 3) := by decide +kernel
theorem dX8_strict_130 : decode cX8_strict 130 = .ok (.iload 6, 2) := by decide +kernel
theorem dX8_strict_132 : decode cX8_strict 132 = .ok (.ifCond .le 20, 3) := by decide +kernel
theorem dX8_strict_135 : decode cX8_strict 135 = .ok (.iload 6, 2) := by decide +kernel
theorem dX8_strict_137 : decode cX8_strict 137 = .ok (.iload_n 2, 1) := by decide +kernel
theorem dX8_strict_138 : decode cX8_strict 138 = .ok (.if_icmp .ge 14, 3) := by decide +kernel
theorem dX8_strict_141 : decode cX8_strict 141 = .ok (.bipush 10, 2) := by decide +kernel
theorem dX8_strict_143 : decode cX8_strict 143 = .ok (.iload 4, 2) := by decide +kernel
theorem dX8_strict_145 : decode cX8_strict 145 = .ok (.imul, 1) := by decide +kernel
theorem dX8_strict_146 : decode cX8_strict 146 = .ok (.iload 5, 2) := by decide +kernel
theorem dX8_strict_148 : decode cX8_strict 148 = .ok (.iadd, 1) := by decide +kernel
theorem dX8_strict_149 : decode cX8_strict 149 = .ok (.goto 4, 3) := by decide +kernel
theorem dX8_strict_152 : decode cX8_strict 152 = .ok (.iload_n 3, 1) := by decide +kernel
theorem dX8_strict_153 : decode cX8_strict 153 = .ok (.istore_n 3, 1) := by decide +kernel
theorem dX8_strict_154 : decode cX8_strict 154 = .ok (.iload 6, 2) := by decide +kernel
theorem dX8_strict_156 : decode cX8_strict 156 = .ok (.ifCond .le 14, 3) := by decide +kernel
theorem dX8_strict_159 : decode cX8_strict 159 = .ok (.iload 6, 2) := by decide +kernel
theorem dX8_strict_161 : decode cX8_strict 161 = .ok (.iload_n 2, 1) := by decide +kernel
theorem dX8_strict_162 : decode cX8_strict 162 = .ok (.if_icmp .ge 8, 3) := by decide +kernel
theorem dX8_strict_165 : decode cX8_strict 165 = .ok (.iload 6, 2) := by decide +kernel
theorem dX8_strict_167 : decode cX8_strict 167 = .ok (.goto 4, 3) := by decide +kernel
theorem dX8_strict_170 : decode cX8_strict 170 = .ok (.iload_n 2, 1) := by decide +kernel
theorem dX8_strict_171 : decode cX8_strict 171 = .ok (.istore_n 2, 1) := by decide +kernel
theorem dX8_strict_172 : decode cX8_strict 172 = .ok (.iinc 5 1, 3) := by decide +kernel
theorem dX8_strict_175 : decode cX8_strict 175 = .ok (.goto (-137), 3) := by decide +kernel
theorem dX8_strict_178 : decode cX8_strict 178 = .ok (.iinc 4 1, 3) := by decide +kernel
theorem dX8_strict_181 : decode cX8_strict 181 = .ok (.goto (-158), 3) := by decide +kernel
theorem dX8_strict_184 : decode cX8_strict 184 = .ok (.iload_n 3, 1) := by decide +kernel
theorem dX8_strict_185 : decode cX8_strict 185 = .ok (.bipush (-4), 2) := by decide +kernel
theorem dX8_strict_187 : decode cX8_strict 187 = .ok (.if_icmp .eq 7, 3) := by decide +kernel
theorem dX8_strict_190 : decode cX8_strict 190 = .ok (.iload_n 1, 1) := by decide +kernel
theorem dX8_strict_191 : decode cX8_strict 191 = .ok (.ifCond .ne 7, 3) := by decide +kernel
theorem dX8_strict_194 : decode cX8_strict 194 = .ok (.iload_n 3, 1) := by decide +kernel
theorem dX8_strict_195 : decode cX8_strict 195 = .ok (.goto 4, 3) := by decide +kernel
theorem dX8_strict_198 : decode cX8_strict 198 = .ok (.iload_n 2, 1) := by decide +kernel
theorem dX8_strict_199 : decode cX8_strict 199 = .ok (.ireturn, 1) := by decide +kernel
theorem dX8_lowest_0 : decode cX8_lowest 0 = .ok (.lload_n 0, 1) := by decide +kernel
theorem dX8_lowest_1 : decode cX8_lowest 1 = .ok (.lstore 5, 2) := by decide +kernel
theorem dX8_lowest_3 : decode cX8_lowest 3 = .ok (.lload_n 2, 1) := by decide +kernel
theorem dX8_lowest_4 : decode cX8_lowest 4 = .ok (.lstore 7, 2) := by decide +kernel
theorem dX8_lowest_6 : decode cX8_lowest 6 = .ok (.lload 7, 2) := by decide +kernel
theorem dX8_lowest_8 : decode cX8_lowest 8 = .ok (.lconst 0, 1) := by decide +kernel
theorem dX8_lowest_9 : decode cX8_lowest 9 = .ok (.lcmp, 1) := by decide +kernel
theorem dX8_lowest_10 : decode cX8_lowest 10 = .ok (.ifCond .eq 21, 3) := by decide +kernel
theorem dX8_lowest_13 : decode cX8_lowest 13 = .ok (.lload 5, 2) := by decide +kernel
theorem dX8_lowest_15 : decode cX8_lowest 15 = .ok (.lload 7, 2) := by decide +kernel
theorem dX8_lowest_17 : decode cX8_lowest 17 = .ok (.lrem, 1) := by decide +kernel
theorem dX8_lowest_18 : decode cX8_lowest 18 = .ok (.lstore 9, 2) := by decide +kernel
theorem dX8_lowest_20 : decode cX8_lowest 20 = .ok (.lload 7, 2) := by decide +kernel
theorem dX8_lowest_22 : decode cX8_lowest 22 = .ok (.lstore 5, 2) := by decide +kernel
theorem dX8_lowest_24 : decode cX8_lowest 24 = .ok (.lload 9, 2) := by decide +kernel
theorem dX8_lowest_26 : decode cX8_lowest 26 = .ok (.lstore 7, 2) := by decide +kernel
theorem dX8_lowest_28 : decode cX8_lowest 28 = .ok (.goto (-22), 3) := by decide +kernel
theorem dX8_lowest_31 : decode cX8_lowest 31 = .ok (.iload 4, 2) := by decide +kernel
theorem dX8_lowest_33 : decode cX8_lowest 33 = .ok (.ifCond .ne 7, 3) := by decide +kernel
theorem dX8_lowest_36 : decode cX8_lowest 36 = .ok (.lload_n 0, 1) := by decide +kernel
theorem dX8_lowest_37 : decode cX8_lowest 37 = .ok (.goto 4, 3) := by decide +kernel
theorem dX8_lowest_40 : decode cX8_lowest 40 = .ok (.lload_n 2, 1) := by decide +kernel
theorem dX8_lowest_41 : decode cX8_lowest 41 = .ok (.lload 5, 2) := by decide +kernel
theorem dX8_lowest_43 : decode cX8_lowest 43 = .ok (.ldiv, 1) := by decide +kernel
theorem dX8_lowest_44 : decode cX8_lowest 44 = .ok (.lreturn, 1) := by decide +kernel
theorem dX8_bitsOf_0 : decode cX8_bitsOf 0 = .ok (.iconst 0, 1) := by decide +kernel
theorem dX8_bitsOf_1 : decode cX8_bitsOf 1 = .ok (.istore_n 1, 1) := by decide +kernel
theorem dX8_bitsOf_2 : decode cX8_bitsOf 2 = .ok (.iconst 0, 1) := by decide +kernel
theorem dX8_bitsOf_3 : decode cX8_bitsOf 3 = .ok (.istore_n 2, 1) := by decide +kernel
theorem dX8_bitsOf_4 : decode cX8_bitsOf 4 = .ok (.iload_n 2, 1) := by decide +kernel
theorem dX8_bitsOf_5 : decode cX8_bitsOf 5 = .ok (.bipush 6, 2) := by decide +kernel
theorem dX8_bitsOf_7 : decode cX8_bitsOf 7 = .ok (.if_icmp .ge 17, 3) := by decide +kernel
theorem dX8_bitsOf_10 : decode cX8_bitsOf 10 = .ok (.iload_n 1, 1) := by decide +kernel
theorem dX8_bitsOf_11 : decode cX8_bitsOf 11 = .ok (.iload_n 0, 1) := by decide +kernel
theorem dX8_bitsOf_12 : decode cX8_bitsOf 12 = .ok (.iload_n 2, 1) := by decide +kernel
theorem dX8_bitsOf_13 : decode cX8_bitsOf 13 = .ok (.ishr, 1) := by decide +kernel
theorem dX8_bitsOf_14 : decode cX8_bitsOf 14 = .ok (.iconst 1, 1) := by decide +kernel
theorem dX8_bitsOf_15 : decode cX8_bitsOf 15 = .ok (.iand, 1) := by decide +kernel
theorem dX8_bitsOf_16 : decode cX8_bitsOf 16 = .ok (.iadd, 1) := by decide +kernel
theorem dX8_bitsOf_17 : decode cX8_bitsOf 17 = .ok (.istore_n 1, 1) := by decide +kernel
theorem dX8_bitsOf_18 : decode cX8_bitsOf 18 = .ok (.iinc 2 1, 3) := by decide +kernel
theorem dX8_bitsOf_21 : decode cX8_bitsOf 21 = .ok (.goto (-17), 3) := by decide +kernel
theorem dX8_bitsOf_24 : decode cX8_bitsOf 24 = .ok (.iload_n 1, 1) := by decide +kernel
theorem dX8_bitsOf_25 : decode cX8_bitsOf 25 = .ok (.ireturn, 1) := by decide +kernel
theorem dX8_bySlips_0 : decode cX8_bySlips 0 = .ok (.aload_n 0, 1) := by decide +kernel
theorem dX8_bySlips_1 : decode cX8_bySlips 1 = .ok (.aload_n 0, 1) := by decide +kernel
theorem dX8_bySlips_2 : decode cX8_bySlips 2 = .ok (.getfield 7, 3) := by decide +kernel
theorem dX8_bySlips_5 : decode cX8_bySlips 5 = .ok (.bipush 18, 2) := by decide +kernel
theorem dX8_bySlips_7 : decode cX8_bySlips 7 = .ok (.iaload, 1) := by decide +kernel
theorem dX8_bySlips_8 : decode cX8_bySlips 8 = .ok (.invokevirtual 147, 3) := by decide +kernel
theorem dX8_bySlips_11 : decode cX8_bySlips 11 = .ok (.istore 4, 2) := by decide +kernel
theorem dX8_bySlips_13 : decode cX8_bySlips 13 = .ok (.lconst 0, 1) := by decide +kernel
theorem dX8_bySlips_14 : decode cX8_bySlips 14 = .ok (.lstore 5, 2) := by decide +kernel
theorem dX8_bySlips_16 : decode cX8_bySlips 16 = .ok (.lconst 1, 1) := by decide +kernel
theorem dX8_bySlips_17 : decode cX8_bySlips 17 = .ok (.lstore 7, 2) := by decide +kernel
theorem dX8_bySlips_19 : decode cX8_bySlips 19 = .ok (.iconst 0, 1) := by decide +kernel
theorem dX8_bySlips_20 : decode cX8_bySlips 20 = .ok (.istore 9, 2) := by decide +kernel
theorem dX8_bySlips_22 : decode cX8_bySlips 22 = .ok (.iload 9, 2) := by decide +kernel
theorem dX8_bySlips_24 : decode cX8_bySlips 24 = .ok (.aload_n 0, 1) := by decide +kernel
theorem dX8_bySlips_25 : decode cX8_bySlips 25 = .ok (.getfield 125, 3) := by decide +kernel
theorem dX8_bySlips_28 : decode cX8_bySlips 28 = .ok (.if_icmp .ge 17, 3) := by decide +kernel
theorem dX8_bySlips_31 : decode cX8_bySlips 31 = .ok (.lload 7, 2) := by decide +kernel
theorem dX8_bySlips_33 : decode cX8_bySlips 33 = .ok (.ldc2_w 248, 3) := by decide +kernel
theorem dX8_bySlips_36 : decode cX8_bySlips 36 = .ok (.lmul, 1) := by decide +kernel
theorem dX8_bySlips_37 : decode cX8_bySlips 37 = .ok (.lstore 7, 2) := by decide +kernel
theorem dX8_bySlips_39 : decode cX8_bySlips 39 = .ok (.iinc 9 1, 3) := by decide +kernel
theorem dX8_bySlips_42 : decode cX8_bySlips 42 = .ok (.goto (-20), 3) := by decide +kernel
theorem dX8_bySlips_45 : decode cX8_bySlips 45 = .ok (.iconst 0, 1) := by decide +kernel
theorem dX8_bySlips_46 : decode cX8_bySlips 46 = .ok (.istore 9, 2) := by decide +kernel
theorem dX8_bySlips_48 : decode cX8_bySlips 48 = .ok (.iload 9, 2) := by decide +kernel
theorem dX8_bySlips_50 : decode cX8_bySlips 50 = .ok (.aload_n 0, 1) := by decide +kernel
theorem dX8_bySlips_51 : decode cX8_bySlips 51 = .ok (.invokevirtual 134, 3) := by decide +kernel
theorem dX8_bySlips_54 : decode cX8_bySlips 54 = .ok (.if_icmp .ge 115, 3) := by decide +kernel
theorem dX8_bySlips_57 : decode cX8_bySlips 57 = .ok (.lconst 1, 1) := by decide +kernel
theorem dX8_bySlips_58 : decode cX8_bySlips 58 = .ok (.lstore 10, 2) := by decide +kernel
theorem dX8_bySlips_60 : decode cX8_bySlips 60 = .ok (.iconst 0, 1) := by decide +kernel
theorem dX8_bySlips_61 : decode cX8_bySlips 61 = .ok (.istore 12, 2) := by decide +kernel
theorem dX8_bySlips_63 : decode cX8_bySlips 63 = .ok (.iload 12, 2) := by decide +kernel
theorem dX8_bySlips_65 : decode cX8_bySlips 65 = .ok (.aload_n 0, 1) := by decide +kernel
theorem dX8_bySlips_66 : decode cX8_bySlips 66 = .ok (.getfield 125, 3) := by decide +kernel
theorem dX8_bySlips_69 : decode cX8_bySlips 69 = .ok (.if_icmp .ge 35, 3) := by decide +kernel
theorem dX8_bySlips_72 : decode cX8_bySlips 72 = .ok (.lload 10, 2) := by decide +kernel
theorem dX8_bySlips_74 : decode cX8_bySlips 74 = .ok (.iload 9, 2) := by decide +kernel
theorem dX8_bySlips_76 : decode cX8_bySlips 76 = .ok (.iload 12, 2) := by decide +kernel
theorem dX8_bySlips_78 : decode cX8_bySlips 78 = .ok (.ishr, 1) := by decide +kernel
theorem dX8_bySlips_79 : decode cX8_bySlips 79 = .ok (.iconst 1, 1) := by decide +kernel
theorem dX8_bySlips_80 : decode cX8_bySlips 80 = .ok (.iand, 1) := by decide +kernel
theorem dX8_bySlips_81 : decode cX8_bySlips 81 = .ok (.iconst 1, 1) := by decide +kernel
theorem dX8_bySlips_82 : decode cX8_bySlips 82 = .ok (.if_icmp .ne 8, 3) := by decide +kernel
theorem dX8_bySlips_85 : decode cX8_bySlips 85 = .ok (.iload_n 1, 1) := by decide +kernel
theorem dX8_bySlips_86 : decode cX8_bySlips 86 = .ok (.i2l, 1) := by decide +kernel
theorem dX8_bySlips_87 : decode cX8_bySlips 87 = .ok (.goto 8, 3) := by decide +kernel
theorem dX8_bySlips_90 : decode cX8_bySlips 90 = .ok (.bipush 10, 2) := by decide +kernel
theorem dX8_bySlips_92 : decode cX8_bySlips 92 = .ok (.iload_n 1, 1) := by decide +kernel
theorem dX8_bySlips_93 : decode cX8_bySlips 93 = .ok (.isub, 1) := by decide +kernel
theorem dX8_bySlips_94 : decode cX8_bySlips 94 = .ok (.i2l, 1) := by decide +kernel
theorem dX8_bySlips_95 : decode cX8_bySlips 95 = .ok (.lmul, 1) := by decide +kernel
theorem dX8_bySlips_96 : decode cX8_bySlips 96 = .ok (.lstore 10, 2) := by decide +kernel
theorem dX8_bySlips_98 : decode cX8_bySlips 98 = .ok (.iinc 12 1, 3) := by decide +kernel
theorem dX8_bySlips_101 : decode cX8_bySlips 101 = .ok (.goto (-38), 3) := by decide +kernel
theorem dX8_bySlips_104 : decode cX8_bySlips 104 = .ok (.iload 4, 2) := by decide +kernel
theorem dX8_bySlips_106 : decode cX8_bySlips 106 = .ok (.iload 9, 2) := by decide +kernel
theorem dX8_bySlips_108 : decode cX8_bySlips 108 = .ok (.ixor, 1) := by decide +kernel
theorem dX8_bySlips_109 : decode cX8_bySlips 109 = .ok (.istore 12, 2) := by decide +kernel
theorem dX8_bySlips_111 : decode cX8_bySlips 111 = .ok (.lload 5, 2) := by decide +kernel
theorem dX8_bySlips_113 : decode cX8_bySlips 113 = .ok (.lload 10, 2) := by decide +kernel
theorem dX8_bySlips_115 : decode cX8_bySlips 115 = .ok (.iload_n 2, 1) := by decide +kernel
theorem dX8_bySlips_116 : decode cX8_bySlips 116 = .ok (.iconst 2, 1) := by decide +kernel
theorem dX8_bySlips_117 : decode cX8_bySlips 117 = .ok (.if_icmp .ne 11, 3) := by decide +kernel
theorem dX8_bySlips_120 : decode cX8_bySlips 120 = .ok (.iload 12, 2) := by decide +kernel
theorem dX8_bySlips_122 : decode cX8_bySlips 122 = .ok (.invokestatic 259, 3) := by decide +kernel
theorem dX8_bySlips_125 : decode cX8_bySlips 125 = .ok (.goto 33, 3) := by decide +kernel
theorem dX8_bySlips_128 : decode cX8_bySlips 128 = .ok (.iload_n 2, 1) := by decide +kernel
theorem dX8_bySlips_129 : decode cX8_bySlips 129 = .ok (.ifCond .ne 15, 3) := by decide +kernel
theorem dX8_bySlips_132 : decode cX8_bySlips 132 = .ok (.aload_n 0, 1) := by decide +kernel
theorem dX8_bySlips_133 : decode cX8_bySlips 133 = .ok (.iload 12, 2) := by decide +kernel
theorem dX8_bySlips_135 : decode cX8_bySlips 135 = .ok (.invokevirtual 153, 3) := by decide +kernel
theorem dX8_bySlips_138 : decode cX8_bySlips 138 = .ok (.ifCond .eq 19, 3) := by decide +kernel
theorem dX8_bySlips_141 : decode cX8_bySlips 141 = .ok (.goto 12, 3) := by decide +kernel
theorem dX8_bySlips_144 : decode cX8_bySlips 144 = .ok (.aload_n 0, 1) := by decide +kernel
theorem dX8_bySlips_145 : decode cX8_bySlips 145 = .ok (.iload 12, 2) := by decide +kernel
theorem dX8_bySlips_147 : decode cX8_bySlips 147 = .ok (.invokevirtual 157, 3) := by decide +kernel
theorem dX8_bySlips_150 : decode cX8_bySlips 150 = .ok (.ifCond .eq 7, 3) := by decide +kernel
theorem dX8_bySlips_153 : decode cX8_bySlips 153 = .ok (.iconst 1, 1) := by decide +kernel
theorem dX8_bySlips_154 : decode cX8_bySlips 154 = .ok (.goto 4, 3) := by decide +kernel
theorem dX8_bySlips_157 : decode cX8_bySlips 157 = .ok (.iconst 0, 1) := by decide +kernel
theorem dX8_bySlips_158 : decode cX8_bySlips 158 = .ok (.i2l, 1) := by decide +kernel
theorem dX8_bySlips_159 : decode cX8_bySlips 159 = .ok (.lmul, 1) := by decide +kernel
theorem dX8_bySlips_160 : decode cX8_bySlips 160 = .ok (.ladd, 1) := by decide +kernel
theorem dX8_bySlips_161 : decode cX8_bySlips 161 = .ok (.lstore 5, 2) := by decide +kernel
theorem dX8_bySlips_163 : decode cX8_bySlips 163 = .ok (.iinc 9 1, 3) := by decide +kernel
theorem dX8_bySlips_166 : decode cX8_bySlips 166 = .ok (.goto (-118), 3) := by decide +kernel
theorem dX8_bySlips_169 : decode cX8_bySlips 169 = .ok (.lload 5, 2) := by decide +kernel
theorem dX8_bySlips_171 : decode cX8_bySlips 171 = .ok (.lload 7, 2) := by decide +kernel
theorem dX8_bySlips_173 : decode cX8_bySlips 173 = .ok (.iload_n 3, 1) := by decide +kernel
theorem dX8_bySlips_174 : decode cX8_bySlips 174 = .ok (.invokestatic 262, 3) := by decide +kernel
theorem dX8_bySlips_177 : decode cX8_bySlips 177 = .ok (.lreturn, 1) := by decide +kernel
theorem dX8_luck_0 : decode cX8_luck 0 = .ok (.iload_n 1, 1) := by decide +kernel
theorem dX8_luck_1 : decode cX8_luck 1 = .ok (.i2l, 1) := by decide +kernel
theorem dX8_luck_2 : decode cX8_luck 2 = .ok (.lconst 0, 1) := by decide +kernel
theorem dX8_luck_3 : decode cX8_luck 3 = .ok (.ldc2_w 248, 3) := by decide +kernel
theorem dX8_luck_6 : decode cX8_luck 6 = .ok (.invokestatic 46, 3) := by decide +kernel
theorem dX8_luck_9 : decode cX8_luck 9 = .ok (.ifCond .eq 23, 3) := by decide +kernel
theorem dX8_luck_12 : decode cX8_luck 12 = .ok (.iload_n 2, 1) := by decide +kernel
theorem dX8_luck_13 : decode cX8_luck 13 = .ok (.i2l, 1) := by decide +kernel
theorem dX8_luck_14 : decode cX8_luck 14 = .ok (.lconst 0, 1) := by decide +kernel
theorem dX8_luck_15 : decode cX8_luck 15 = .ok (.lconst 1, 1) := by decide +kernel
theorem dX8_luck_16 : decode cX8_luck 16 = .ok (.invokestatic 46, 3) := by decide +kernel
theorem dX8_luck_19 : decode cX8_luck 19 = .ok (.ifCond .eq 13, 3) := by decide +kernel
theorem dX8_luck_22 : decode cX8_luck 22 = .ok (.aload_n 0, 1) := by decide +kernel
theorem dX8_luck_23 : decode cX8_luck 23 = .ok (.iload_n 1, 1) := by decide +kernel
theorem dX8_luck_24 : decode cX8_luck 24 = .ok (.iconst 0, 1) := by decide +kernel
theorem dX8_luck_25 : decode cX8_luck 25 = .ok (.iload_n 2, 1) := by decide +kernel
theorem dX8_luck_26 : decode cX8_luck 26 = .ok (.invokevirtual 266, 3) := by decide +kernel
theorem dX8_luck_29 : decode cX8_luck 29 = .ok (.goto 6, 3) := by decide +kernel
theorem dX8_luck_32 : decode cX8_luck 32 = .ok (.ldc2_w 270, 3) := by decide +kernel
theorem dX8_luck_35 : decode cX8_luck 35 = .ok (.lreturn, 1) := by decide +kernel
theorem dX8_calm_0 : decode cX8_calm 0 = .ok (.iload_n 1, 1) := by decide +kernel
theorem dX8_calm_1 : decode cX8_calm 1 = .ok (.i2l, 1) := by decide +kernel
theorem dX8_calm_2 : decode cX8_calm 2 = .ok (.lconst 0, 1) := by decide +kernel
theorem dX8_calm_3 : decode cX8_calm 3 = .ok (.ldc2_w 248, 3) := by decide +kernel
theorem dX8_calm_6 : decode cX8_calm 6 = .ok (.invokestatic 46, 3) := by decide +kernel
theorem dX8_calm_9 : decode cX8_calm 9 = .ok (.ifCond .eq 23, 3) := by decide +kernel
theorem dX8_calm_12 : decode cX8_calm 12 = .ok (.iload_n 2, 1) := by decide +kernel
theorem dX8_calm_13 : decode cX8_calm 13 = .ok (.i2l, 1) := by decide +kernel
theorem dX8_calm_14 : decode cX8_calm 14 = .ok (.lconst 0, 1) := by decide +kernel
theorem dX8_calm_15 : decode cX8_calm 15 = .ok (.lconst 1, 1) := by decide +kernel
theorem dX8_calm_16 : decode cX8_calm 16 = .ok (.invokestatic 46, 3) := by decide +kernel
theorem dX8_calm_19 : decode cX8_calm 19 = .ok (.ifCond .eq 13, 3) := by decide +kernel
theorem dX8_calm_22 : decode cX8_calm 22 = .ok (.aload_n 0, 1) := by decide +kernel
theorem dX8_calm_23 : decode cX8_calm 23 = .ok (.iload_n 1, 1) := by decide +kernel
theorem dX8_calm_24 : decode cX8_calm 24 = .ok (.iconst 1, 1) := by decide +kernel
theorem dX8_calm_25 : decode cX8_calm 25 = .ok (.iload_n 2, 1) := by decide +kernel
theorem dX8_calm_26 : decode cX8_calm 26 = .ok (.invokevirtual 266, 3) := by decide +kernel
theorem dX8_calm_29 : decode cX8_calm 29 = .ok (.goto 6, 3) := by decide +kernel
theorem dX8_calm_32 : decode cX8_calm 32 = .ok (.ldc2_w 270, 3) := by decide +kernel
theorem dX8_calm_35 : decode cX8_calm 35 = .ok (.lreturn, 1) := by decide +kernel
theorem dX8_mean_0 : decode cX8_mean 0 = .ok (.iload_n 1, 1) := by decide +kernel
theorem dX8_mean_1 : decode cX8_mean 1 = .ok (.i2l, 1) := by decide +kernel
theorem dX8_mean_2 : decode cX8_mean 2 = .ok (.lconst 0, 1) := by decide +kernel
theorem dX8_mean_3 : decode cX8_mean 3 = .ok (.ldc2_w 248, 3) := by decide +kernel
theorem dX8_mean_6 : decode cX8_mean 6 = .ok (.invokestatic 46, 3) := by decide +kernel
theorem dX8_mean_9 : decode cX8_mean 9 = .ok (.ifCond .eq 23, 3) := by decide +kernel
theorem dX8_mean_12 : decode cX8_mean 12 = .ok (.iload_n 2, 1) := by decide +kernel
theorem dX8_mean_13 : decode cX8_mean 13 = .ok (.i2l, 1) := by decide +kernel
theorem dX8_mean_14 : decode cX8_mean 14 = .ok (.lconst 0, 1) := by decide +kernel
theorem dX8_mean_15 : decode cX8_mean 15 = .ok (.lconst 1, 1) := by decide +kernel
theorem dX8_mean_16 : decode cX8_mean 16 = .ok (.invokestatic 46, 3) := by decide +kernel
theorem dX8_mean_19 : decode cX8_mean 19 = .ok (.ifCond .eq 13, 3) := by decide +kernel
theorem dX8_mean_22 : decode cX8_mean 22 = .ok (.aload_n 0, 1) := by decide +kernel
theorem dX8_mean_23 : decode cX8_mean 23 = .ok (.iload_n 1, 1) := by decide +kernel
theorem dX8_mean_24 : decode cX8_mean 24 = .ok (.iconst 2, 1) := by decide +kernel
theorem dX8_mean_25 : decode cX8_mean 25 = .ok (.iload_n 2, 1) := by decide +kernel
theorem dX8_mean_26 : decode cX8_mean 26 = .ok (.invokevirtual 266, 3) := by decide +kernel
theorem dX8_mean_29 : decode cX8_mean 29 = .ok (.goto 6, 3) := by decide +kernel
theorem dX8_mean_32 : decode cX8_mean 32 = .ok (.ldc2_w 270, 3) := by decide +kernel
theorem dX8_mean_35 : decode cX8_mean 35 = .ok (.lreturn, 1) := by decide +kernel
theorem dX8_see_0 : decode cX8_see 0 = .ok (.aload_n 0, 1) := by decide +kernel
theorem dX8_see_1 : decode cX8_see 1 = .ok (.iload_n 1, 1) := by decide +kernel
theorem dX8_see_2 : decode cX8_see 2 = .ok (.invokevirtual 160, 3) := by decide +kernel
theorem dX8_see_5 : decode cX8_see 5 = .ok (.ifCond .eq 15, 3) := by decide +kernel
theorem dX8_see_8 : decode cX8_see 8 = .ok (.iload_n 2, 1) := by decide +kernel
theorem dX8_see_9 : decode cX8_see 9 = .ok (.i2l, 1) := by decide +kernel
theorem dX8_see_10 : decode cX8_see 10 = .ok (.lconst 0, 1) := by decide +kernel
theorem dX8_see_11 : decode cX8_see 11 = .ok (.ldc2_w 181, 3) := by decide +kernel
theorem dX8_see_14 : decode cX8_see 14 = .ok (.invokestatic 46, 3) := by decide +kernel
theorem dX8_see_17 : decode cX8_see 17 = .ok (.ifCond .ne 5, 3) := by decide +kernel
theorem dX8_see_20 : decode cX8_see 20 = .ok (.iconst (-1), 1) := by decide +kernel
theorem dX8_see_21 : decode cX8_see 21 = .ok (.ireturn, 1) := by decide +kernel
theorem dX8_see_22 : decode cX8_see 22 = .ok (.aload_n 0, 1) := by decide +kernel
theorem dX8_see_23 : decode cX8_see 23 = .ok (.getfield 131, 3) := by decide +kernel
theorem dX8_see_26 : decode cX8_see 26 = .ok (.bipush 6, 2) := by decide +kernel
theorem dX8_see_28 : decode cX8_see 28 = .ok (.if_icmp .ne 6, 3) := by decide +kernel
theorem dX8_see_31 : decode cX8_see 31 = .ok (.bipush (-3), 2) := by decide +kernel
theorem dX8_see_33 : decode cX8_see 33 = .ok (.ireturn, 1) := by decide +kernel
theorem dX8_see_34 : decode cX8_see 34 = .ok (.aload_n 0, 1) := by decide +kernel
theorem dX8_see_35 : decode cX8_see 35 = .ok (.getfield 25, 3) := by decide +kernel
theorem dX8_see_38 : decode cX8_see 38 = .ok (.iconst 3, 1) := by decide +kernel
theorem dX8_see_39 : decode cX8_see 39 = .ok (.aload_n 0, 1) := by decide +kernel
theorem dX8_see_40 : decode cX8_see 40 = .ok (.getfield 131, 3) := by decide +kernel
theorem dX8_see_43 : decode cX8_see 43 = .ok (.imul, 1) := by decide +kernel
theorem dX8_see_44 : decode cX8_see 44 = .ok (.iload_n 1, 1) := by decide +kernel
theorem dX8_see_45 : decode cX8_see 45 = .ok (.iastore, 1) := by decide +kernel
theorem dX8_see_46 : decode cX8_see 46 = .ok (.aload_n 0, 1) := by decide +kernel
theorem dX8_see_47 : decode cX8_see 47 = .ok (.getfield 25, 3) := by decide +kernel
theorem dX8_see_50 : decode cX8_see 50 = .ok (.iconst 3, 1) := by decide +kernel
theorem dX8_see_51 : decode cX8_see 51 = .ok (.aload_n 0, 1) := by decide +kernel
theorem dX8_see_52 : decode cX8_see 52 = .ok (.getfield 131, 3) := by decide +kernel
theorem dX8_see_55 : decode cX8_see 55 = .ok (.imul, 1) := by decide +kernel
theorem dX8_see_56 : decode cX8_see 56 = .ok (.iconst 1, 1) := by decide +kernel
theorem dX8_see_57 : decode cX8_see 57 = .ok (.iadd, 1) := by decide +kernel
theorem dX8_see_58 : decode cX8_see 58 = .ok (.iload_n 2, 1) := by decide +kernel
theorem dX8_see_59 : decode cX8_see 59 = .ok (.iastore, 1) := by decide +kernel
theorem dX8_see_60 : decode cX8_see 60 = .ok (.aload_n 0, 1) := by decide +kernel
theorem dX8_see_61 : decode cX8_see 61 = .ok (.getfield 25, 3) := by decide +kernel
theorem dX8_see_64 : decode cX8_see 64 = .ok (.iconst 3, 1) := by decide +kernel
theorem dX8_see_65 : decode cX8_see 65 = .ok (.aload_n 0, 1) := by decide +kernel
theorem dX8_see_66 : decode cX8_see 66 = .ok (.getfield 131, 3) := by decide +kernel
theorem dX8_see_69 : decode cX8_see 69 = .ok (.imul, 1) := by decide +kernel
theorem dX8_see_70 : decode cX8_see 70 = .ok (.iconst 2, 1) := by decide +kernel
theorem dX8_see_71 : decode cX8_see 71 = .ok (.iadd, 1) := by decide +kernel
theorem dX8_see_72 : decode cX8_see 72 = .ok (.iload_n 3, 1) := by decide +kernel
theorem dX8_see_73 : decode cX8_see 73 = .ok (.ifCond .eq 7, 3) := by decide +kernel
theorem dX8_see_76 : decode cX8_see 76 = .ok (.iconst 1, 1) := by decide +kernel
theorem dX8_see_77 : decode cX8_see 77 = .ok (.goto 4, 3) := by decide +kernel
theorem dX8_see_80 : decode cX8_see 80 = .ok (.iconst 0, 1) := by decide +kernel
theorem dX8_see_81 : decode cX8_see 81 = .ok (.iastore, 1) := by decide +kernel
theorem dX8_see_82 : decode cX8_see 82 = .ok (.aload_n 0, 1) := by decide +kernel
theorem dX8_see_83 : decode cX8_see 83 = .ok (.dup, 1) := by decide +kernel
theorem dX8_see_84 : decode cX8_see 84 = .ok (.getfield 131, 3) := by decide +kernel
theorem dX8_see_87 : decode cX8_see 87 = .ok (.iconst 1, 1) := by decide +kernel
theorem dX8_see_88 : decode cX8_see 88 = .ok (.iadd, 1) := by decide +kernel
theorem dX8_see_89 : decode cX8_see 89 = .ok (.putfield 131, 3) := by decide +kernel
theorem dX8_see_92 : decode cX8_see 92 = .ok (.aload_n 0, 1) := by decide +kernel
theorem dX8_see_93 : decode cX8_see 93 = .ok (.getfield 131, 3) := by decide +kernel
theorem dX8_see_96 : decode cX8_see 96 = .ok (.ireturn, 1) := by decide +kernel
theorem dX8_forget_0 : decode cX8_forget 0 = .ok (.iload_n 1, 1) := by decide +kernel
theorem dX8_forget_1 : decode cX8_forget 1 = .ok (.i2l, 1) := by decide +kernel
theorem dX8_forget_2 : decode cX8_forget 2 = .ok (.lconst 0, 1) := by decide +kernel
theorem dX8_forget_3 : decode cX8_forget 3 = .ok (.aload_n 0, 1) := by decide +kernel
theorem dX8_forget_4 : decode cX8_forget 4 = .ok (.getfield 131, 3) := by decide +kernel
theorem dX8_forget_7 : decode cX8_forget 7 = .ok (.i2l, 1) := by decide +kernel
theorem dX8_forget_8 : decode cX8_forget 8 = .ok (.invokestatic 46, 3) := by decide +kernel
theorem dX8_forget_11 : decode cX8_forget 11 = .ok (.ifCond .ne 5, 3) := by decide +kernel
theorem dX8_forget_14 : decode cX8_forget 14 = .ok (.iconst (-1), 1) := by decide +kernel
theorem dX8_forget_15 : decode cX8_forget 15 = .ok (.ireturn, 1) := by decide +kernel
theorem dX8_forget_16 : decode cX8_forget 16 = .ok (.aload_n 0, 1) := by decide +kernel
theorem dX8_forget_17 : decode cX8_forget 17 = .ok (.getfield 131, 3) := by decide +kernel
theorem dX8_forget_20 : decode cX8_forget 20 = .ok (.istore_n 2, 1) := by decide +kernel
theorem dX8_forget_21 : decode cX8_forget 21 = .ok (.aload_n 0, 1) := by decide +kernel
theorem dX8_forget_22 : decode cX8_forget 22 = .ok (.iload_n 1, 1) := by decide +kernel
theorem dX8_forget_23 : decode cX8_forget 23 = .ok (.putfield 131, 3) := by decide +kernel
theorem dX8_forget_26 : decode cX8_forget 26 = .ok (.iload_n 2, 1) := by decide +kernel
theorem dX8_forget_27 : decode cX8_forget 27 = .ok (.ireturn, 1) := by decide +kernel
theorem dX8_doesFit_0 : decode cX8_doesFit 0 = .ok (.iconst 1, 1) := by decide +kernel
theorem dX8_doesFit_1 : decode cX8_doesFit 1 = .ok (.istore_n 2, 1) := by decide +kernel
theorem dX8_doesFit_2 : decode cX8_doesFit 2 = .ok (.iconst 0, 1) := by decide +kernel
theorem dX8_doesFit_3 : decode cX8_doesFit 3 = .ok (.istore_n 3, 1) := by decide +kernel
theorem dX8_doesFit_4 : decode cX8_doesFit 4 = .ok (.iload_n 3, 1) := by decide +kernel
theorem dX8_doesFit_5 : decode cX8_doesFit 5 = .ok (.aload_n 0, 1) := by decide +kernel
theorem dX8_doesFit_6 : decode cX8_doesFit 6 = .ok (.getfield 131, 3) := by decide +kernel
theorem dX8_doesFit_9 : decode cX8_doesFit 9 = .ok (.if_icmp .ge 58, 3) := by decide +kernel
theorem dX8_doesFit_12 : decode cX8_doesFit 12 = .ok (.iload_n 2, 1) := by decide +kernel
theorem dX8_doesFit_13 : decode cX8_doesFit 13 = .ok (.ifCond .eq 46, 3) := by decide +kernel
theorem dX8_doesFit_16 : decode cX8_doesFit 16 = .ok (.aload_n 0, 1) := by decide +kernel
theorem dX8_doesFit_17 : decode cX8_doesFit 17 = .ok (.iload_n 1, 1) := by decide +kernel
theorem dX8_doesFit_18 : decode cX8_doesFit 18 = .ok (.aload_n 0, 1) := by decide +kernel
theorem dX8_doesFit_19 : decode cX8_doesFit 19 = .ok (.getfield 25, 3) := by decide +kernel
theorem dX8_doesFit_22 : decode cX8_doesFit 22 = .ok (.iconst 3, 1) := by decide +kernel
theorem dX8_doesFit_23 : decode cX8_doesFit 23 = .ok (.iload_n 3, 1) := by decide +kernel
theorem dX8_doesFit_24 : decode cX8_doesFit 24 = .ok (.imul, 1) := by decide +kernel
theorem dX8_doesFit_25 : decode cX8_doesFit 25 = .ok (.iconst 1, 1) := by decide +kernel
theorem dX8_doesFit_26 : decode cX8_doesFit 26 = .ok (.iadd, 1) := by decide +kernel
theorem dX8_doesFit_27 : decode cX8_doesFit 27 = .ok (.iaload, 1) := by decide +kernel
theorem dX8_doesFit_28 : decode cX8_doesFit 28 = .ok (.invokevirtual 188, 3) := by decide +kernel
theorem dX8_doesFit_31 : decode cX8_doesFit 31 = .ok (.aload_n 0, 1) := by decide +kernel
theorem dX8_doesFit_32 : decode cX8_doesFit 32 = .ok (.getfield 25, 3) := by decide +kernel
theorem dX8_doesFit_35 : decode cX8_doesFit 35 = .ok (.iconst 3, 1) := by decide +kernel
theorem dX8_doesFit_36 : decode cX8_doesFit 36 = .ok (.iload_n 3, 1) := by decide +kernel
theorem dX8_doesFit_37 : decode cX8_doesFit 37 = .ok (.imul, 1) := by decide +kernel
theorem dX8_doesFit_38 : decode cX8_doesFit 38 = .ok (.iaload, 1) := by decide +kernel
theorem dX8_doesFit_39 : decode cX8_doesFit 39 = .ok (.ishr, 1) := by decide +kernel
theorem dX8_doesFit_40 : decode cX8_doesFit 40 = .ok (.iconst 1, 1) := by decide +kernel
theorem dX8_doesFit_41 : decode cX8_doesFit 41 = .ok (.iand, 1) := by decide +kernel
theorem dX8_doesFit_42 : decode cX8_doesFit 42 = .ok (.aload_n 0, 1) := by decide +kernel
theorem dX8_doesFit_43 : decode cX8_doesFit 43 = .ok (.getfield 25, 3) := by decide +kernel
theorem dX8_doesFit_46 : decode cX8_doesFit 46 = .ok (.iconst 3, 1) := by decide +kernel
theorem dX8_doesFit_47 : decode cX8_doesFit 47 = .ok (.iload_n 3, 1) := by decide +kernel
theorem dX8_doesFit_48 : decode cX8_doesFit 48 = .ok (.imul, 1) := by decide +kernel
theorem dX8_doesFit_49 : decode cX8_doesFit 49 = .ok (.iconst 2, 1) := by decide +kernel
theorem dX8_doesFit_50 : decode cX8_doesFit 50 = .ok (.iadd, 1) := by decide +kernel
theorem dX8_doesFit_51 : decode cX8_doesFit 51 = .ok (.iaload, 1) := by decide +kernel
theorem dX8_doesFit_52 : decode cX8_doesFit 52 = .ok (.if_icmp .ne 7, 3) := by decide +kernel
theorem dX8_doesFit_55 : decode cX8_doesFit 55 = .ok (.iconst 1, 1) := by decide +kernel
theorem dX8_doesFit_56 : decode cX8_doesFit 56 = .ok (.goto 4, 3) := by decide +kernel
theorem dX8_doesFit_59 : decode cX8_doesFit 59 = .ok (.iconst 0, 1) := by decide +kernel
theorem dX8_doesFit_60 : decode cX8_doesFit 60 = .ok (.istore_n 2, 1) := by decide +kernel
theorem dX8_doesFit_61 : decode cX8_doesFit 61 = .ok (.iinc 3 1, 3) := by decide +kernel
theorem dX8_doesFit_64 : decode cX8_doesFit 64 = .ok (.goto (-60), 3) := by decide +kernel
theorem dX8_doesFit_67 : decode cX8_doesFit 67 = .ok (.iload_n 2, 1) := by decide +kernel
theorem dX8_doesFit_68 : decode cX8_doesFit 68 = .ok (.ireturn, 1) := by decide +kernel
theorem dX8_fits_0 : decode cX8_fits 0 = .ok (.iload_n 1, 1) := by decide +kernel
theorem dX8_fits_1 : decode cX8_fits 1 = .ok (.i2l, 1) := by decide +kernel
theorem dX8_fits_2 : decode cX8_fits 2 = .ok (.lconst 0, 1) := by decide +kernel
theorem dX8_fits_3 : decode cX8_fits 3 = .ok (.ldc2_w 194, 3) := by decide +kernel
theorem dX8_fits_6 : decode cX8_fits 6 = .ok (.invokestatic 46, 3) := by decide +kernel
theorem dX8_fits_9 : decode cX8_fits 9 = .ok (.ifCond .ne 5, 3) := by decide +kernel
theorem dX8_fits_12 : decode cX8_fits 12 = .ok (.iconst (-1), 1) := by decide +kernel
theorem dX8_fits_13 : decode cX8_fits 13 = .ok (.ireturn, 1) := by decide +kernel
theorem dX8_fits_14 : decode cX8_fits 14 = .ok (.aload_n 0, 1) := by decide +kernel
theorem dX8_fits_15 : decode cX8_fits 15 = .ok (.invokevirtual 212, 3) := by decide +kernel
theorem dX8_fits_18 : decode cX8_fits 18 = .ok (.iconst 0, 1) := by decide +kernel
theorem dX8_fits_19 : decode cX8_fits 19 = .ok (.istore_n 2, 1) := by decide +kernel
theorem dX8_fits_20 : decode cX8_fits 20 = .ok (.iload_n 2, 1) := by decide +kernel
theorem dX8_fits_21 : decode cX8_fits 21 = .ok (.aload_n 0, 1) := by decide +kernel
theorem dX8_fits_22 : decode cX8_fits 22 = .ok (.invokevirtual 134, 3) := by decide +kernel
theorem dX8_fits_25 : decode cX8_fits 25 = .ok (.if_icmp .ge 22, 3) := by decide +kernel
theorem dX8_fits_28 : decode cX8_fits 28 = .ok (.aload_n 0, 1) := by decide +kernel
theorem dX8_fits_29 : decode cX8_fits 29 = .ok (.iload_n 2, 1) := by decide +kernel
theorem dX8_fits_30 : decode cX8_fits 30 = .ok (.invokevirtual 272, 3) := by decide +kernel
theorem dX8_fits_33 : decode cX8_fits 33 = .ok (.ifCond .eq 8, 3) := by decide +kernel
theorem dX8_fits_36 : decode cX8_fits 36 = .ok (.aload_n 0, 1) := by decide +kernel
theorem dX8_fits_37 : decode cX8_fits 37 = .ok (.iload_n 2, 1) := by decide +kernel
theorem dX8_fits_38 : decode cX8_fits 38 = .ok (.invokevirtual 215, 3) := by decide +kernel
theorem dX8_fits_41 : decode cX8_fits 41 = .ok (.iinc 2 1, 3) := by decide +kernel
theorem dX8_fits_44 : decode cX8_fits 44 = .ok (.goto (-24), 3) := by decide +kernel
theorem dX8_fits_47 : decode cX8_fits 47 = .ok (.aload_n 0, 1) := by decide +kernel
theorem dX8_fits_48 : decode cX8_fits 48 = .ok (.iload_n 1, 1) := by decide +kernel
theorem dX8_fits_49 : decode cX8_fits 49 = .ok (.invokevirtual 221, 3) := by decide +kernel
theorem dX8_fits_52 : decode cX8_fits 52 = .ok (.ireturn, 1) := by decide +kernel
theorem dX8_look_0 : decode cX8_look 0 = .ok (.iload_n 1, 1) := by decide +kernel
theorem dX8_look_1 : decode cX8_look 1 = .ok (.i2l, 1) := by decide +kernel
theorem dX8_look_2 : decode cX8_look 2 = .ok (.lconst 0, 1) := by decide +kernel
theorem dX8_look_3 : decode cX8_look 3 = .ok (.lconst 1, 1) := by decide +kernel
theorem dX8_look_4 : decode cX8_look 4 = .ok (.invokestatic 46, 3) := by decide +kernel
theorem dX8_look_7 : decode cX8_look 7 = .ok (.ifCond .ne 5, 3) := by decide +kernel
theorem dX8_look_10 : decode cX8_look 10 = .ok (.iconst (-1), 1) := by decide +kernel
theorem dX8_look_11 : decode cX8_look 11 = .ok (.ireturn, 1) := by decide +kernel
theorem dX8_look_12 : decode cX8_look 12 = .ok (.iconst 0, 1) := by decide +kernel
theorem dX8_look_13 : decode cX8_look 13 = .ok (.istore_n 2, 1) := by decide +kernel
theorem dX8_look_14 : decode cX8_look 14 = .ok (.iconst 0, 1) := by decide +kernel
theorem dX8_look_15 : decode cX8_look 15 = .ok (.istore_n 3, 1) := by decide +kernel
theorem dX8_look_16 : decode cX8_look 16 = .ok (.iload_n 3, 1) := by decide +kernel
theorem dX8_look_17 : decode cX8_look 17 = .ok (.bipush 60, 2) := by decide +kernel
theorem dX8_look_19 : decode cX8_look 19 = .ok (.if_icmp .ge 16, 3) := by decide +kernel
theorem dX8_look_22 : decode cX8_look 22 = .ok (.aload_n 0, 1) := by decide +kernel
theorem dX8_look_23 : decode cX8_look 23 = .ok (.getfield 28, 3) := by decide +kernel
theorem dX8_look_26 : decode cX8_look 26 = .ok (.iload_n 3, 1) := by decide +kernel
theorem dX8_look_27 : decode cX8_look 27 = .ok (.iconst 0, 1) := by decide +kernel
theorem dX8_look_28 : decode cX8_look 28 = .ok (.iastore, 1) := by decide +kernel
theorem dX8_look_29 : decode cX8_look 29 = .ok (.iinc 3 1, 3) := by decide +kernel
theorem dX8_look_32 : decode cX8_look 32 = .ok (.goto (-16), 3) := by decide +kernel
theorem dX8_look_35 : decode cX8_look 35 = .ok (.iconst 0, 1) := by decide +kernel
theorem dX8_look_36 : decode cX8_look 36 = .ok (.istore_n 3, 1) := by decide +kernel
theorem dX8_look_37 : decode cX8_look 37 = .ok (.iload_n 3, 1) := by decide +kernel
theorem dX8_look_38 : decode cX8_look 38 = .ok (.aload_n 0, 1) := by decide +kernel
theorem dX8_look_39 : decode cX8_look 39 = .ok (.invokevirtual 134, 3) := by decide +kernel
theorem dX8_look_42 : decode cX8_look 42 = .ok (.if_icmp .ge 64, 3) := by decide +kernel
theorem dX8_look_45 : decode cX8_look 45 = .ok (.aload_n 0, 1) := by decide +kernel
theorem dX8_look_46 : decode cX8_look 46 = .ok (.iload_n 3, 1) := by decide +kernel
theorem dX8_look_47 : decode cX8_look 47 = .ok (.invokevirtual 272, 3) := by decide +kernel
theorem dX8_look_50 : decode cX8_look 50 = .ok (.ifCond .eq 50, 3) := by decide +kernel
theorem dX8_look_53 : decode cX8_look 53 = .ok (.iinc 2 1, 3) := by decide +kernel
theorem dX8_look_56 : decode cX8_look 56 = .ok (.iconst 0, 1) := by decide +kernel
theorem dX8_look_57 : decode cX8_look 57 = .ok (.istore 4, 2) := by decide +kernel
theorem dX8_look_59 : decode cX8_look 59 = .ok (.iload 4, 2) := by decide +kernel
theorem dX8_look_61 : decode cX8_look 61 = .ok (.bipush 60, 2) := by decide +kernel
theorem dX8_look_63 : decode cX8_look 63 = .ok (.if_icmp .ge 37, 3) := by decide +kernel
theorem dX8_look_66 : decode cX8_look 66 = .ok (.aload_n 0, 1) := by decide +kernel
theorem dX8_look_67 : decode cX8_look 67 = .ok (.getfield 28, 3) := by decide +kernel
theorem dX8_look_70 : decode cX8_look 70 = .ok (.iload 4, 2) := by decide +kernel
theorem dX8_look_72 : decode cX8_look 72 = .ok (.dup2, 1) := by decide +kernel
theorem dX8_look_73 : decode cX8_look 73 = .ok (.iaload, 1) := by decide +kernel
theorem dX8_look_74 : decode cX8_look 74 = .ok (.aload_n 0, 1) := by decide +kernel
theorem dX8_look_75 : decode cX8_look 75 = .ok (.iload_n 3, 1) := by decide +kernel
theorem dX8_look_76 : decode cX8_look 76 = .ok (.iload 4, 2) := by decide +kernel
theorem dX8_look_78 : decode cX8_look 78 = .ok (.bipush 6, 2) := by decide +kernel
theorem dX8_look_80 : decode cX8_look 80 = .ok (.idiv, 1) := by decide +kernel
theorem dX8_look_81 : decode cX8_look 81 = .ok (.invokevirtual 188, 3) := by decide +kernel
theorem dX8_look_84 : decode cX8_look 84 = .ok (.iload 4, 2) := by decide +kernel
theorem dX8_look_86 : decode cX8_look 86 = .ok (.bipush 6, 2) := by decide +kernel
theorem dX8_look_88 : decode cX8_look 88 = .ok (.irem, 1) := by decide +kernel
theorem dX8_look_89 : decode cX8_look 89 = .ok (.ishr, 1) := by decide +kernel
theorem dX8_look_90 : decode cX8_look 90 = .ok (.iconst 1, 1) := by decide +kernel
theorem dX8_look_91 : decode cX8_look 91 = .ok (.iand, 1) := by decide +kernel
theorem dX8_look_92 : decode cX8_look 92 = .ok (.iadd, 1) := by decide +kernel
theorem dX8_look_93 : decode cX8_look 93 = .ok (.iastore, 1) := by decide +kernel
theorem dX8_look_94 : decode cX8_look 94 = .ok (.iinc 4 1, 3) := by decide +kernel
theorem dX8_look_97 : decode cX8_look 97 = .ok (.goto (-38), 3) := by decide +kernel
theorem dX8_look_100 : decode cX8_look 100 = .ok (.iinc 3 1, 3) := by decide +kernel
theorem dX8_look_103 : decode cX8_look 103 = .ok (.goto (-66), 3) := by decide +kernel
theorem dX8_look_106 : decode cX8_look 106 = .ok (.iload_n 2, 1) := by decide +kernel
theorem dX8_look_107 : decode cX8_look 107 = .ok (.istore_n 3, 1) := by decide +kernel
theorem dX8_look_108 : decode cX8_look 108 = .ok (.bipush (-4), 2) := by decide +kernel
theorem dX8_look_110 : decode cX8_look 110 = .ok (.istore 4, 2) := by decide +kernel
theorem dX8_look_112 : decode cX8_look 112 = .ok (.iconst 0, 1) := by decide +kernel
theorem dX8_look_113 : decode cX8_look 113 = .ok (.istore 5, 2) := by decide +kernel
theorem dX8_look_115 : decode cX8_look 115 = .ok (.iload 5, 2) := by decide +kernel
theorem dX8_look_117 : decode cX8_look 117 = .ok (.bipush 60, 2) := by decide +kernel
theorem dX8_look_119 : decode cX8_look 119 = .ok (.if_icmp .ge 112, 3) := by decide +kernel
theorem dX8_look_122 : decode cX8_look 122 = .ok (.aload_n 0, 1) := by decide +kernel
theorem dX8_look_123 : decode cX8_look 123 = .ok (.getfield 28, 3) := by decide +kernel
theorem dX8_look_126 : decode cX8_look 126 = .ok (.iload 5, 2) := by decide +kernel
theorem dX8_look_128 : decode cX8_look 128 = .ok (.iaload, 1) := by decide +kernel
theorem dX8_look_129 : decode cX8_look 129 = .ok (.iload_n 2, 1) := by decide +kernel
theorem dX8_look_130 : decode cX8_look 130 = .ok (.aload_n 0, 1) := by decide +kernel
theorem dX8_look_131 : decode cX8_look 131 = .ok (.getfield 28, 3) := by decide +kernel
theorem dX8_look_134 : decode cX8_look 134 = .ok (.iload 5, 2) := by decide +kernel
theorem dX8_look_136 : decode cX8_look 136 = .ok (.iaload, 1) := by decide +kernel
theorem dX8_look_137 : decode cX8_look 137 = .ok (.isub, 1) := by decide +kernel
theorem dX8_look_138 : decode cX8_look 138 = .ok (.if_icmp .le 13, 3) := by decide +kernel
theorem dX8_look_141 : decode cX8_look 141 = .ok (.aload_n 0, 1) := by decide +kernel
theorem dX8_look_142 : decode cX8_look 142 = .ok (.getfield 28, 3) := by decide +kernel
theorem dX8_look_145 : decode cX8_look 145 = .ok (.iload 5, 2) := by decide +kernel
theorem dX8_look_147 : decode cX8_look 147 = .ok (.iaload, 1) := by decide +kernel
theorem dX8_look_148 : decode cX8_look 148 = .ok (.goto 12, 3) := by decide +kernel
theorem dX8_look_151 : decode cX8_look 151 = .ok (.iload_n 2, 1) := by decide +kernel
theorem dX8_look_152 : decode cX8_look 152 = .ok (.aload_n 0, 1) := by decide +kernel
theorem dX8_look_153 : decode cX8_look 153 = .ok (.getfield 28, 3) := by decide +kernel
theorem dX8_look_156 : decode cX8_look 156 = .ok (.iload 5, 2) := by decide +kernel
theorem dX8_look_158 : decode cX8_look 158 = .ok (.iaload, 1) := by decide +kernel
theorem dX8_look_159 : decode cX8_look 159 = .ok (.isub, 1) := by decide +kernel
theorem dX8_look_160 : decode cX8_look 160 = .ok (.istore 6, 2) := by decide +kernel
theorem dX8_look_162 : decode cX8_look 162 = .ok (.iload 5, 2) := by decide +kernel
theorem dX8_look_164 : decode cX8_look 164 = .ok (.bipush 6, 2) := by decide +kernel
theorem dX8_look_166 : decode cX8_look 166 = .ok (.irem, 1) := by decide +kernel
theorem dX8_look_167 : decode cX8_look 167 = .ok (.aload_n 0, 1) := by decide +kernel
theorem dX8_look_168 : decode cX8_look 168 = .ok (.getfield 125, 3) := by decide +kernel
theorem dX8_look_171 : decode cX8_look 171 = .ok (.if_icmp .ge 13, 3) := by decide +kernel
theorem dX8_look_174 : decode cX8_look 174 = .ok (.iload 6, 2) := by decide +kernel
theorem dX8_look_176 : decode cX8_look 176 = .ok (.iload_n 3, 1) := by decide +kernel
theorem dX8_look_177 : decode cX8_look 177 = .ok (.if_icmp .ge 7, 3) := by decide +kernel
theorem dX8_look_180 : decode cX8_look 180 = .ok (.iconst 1, 1) := by decide +kernel
theorem dX8_look_181 : decode cX8_look 181 = .ok (.goto 4, 3) := by decide +kernel
theorem dX8_look_184 : decode cX8_look 184 = .ok (.iconst 0, 1) := by decide +kernel
theorem dX8_look_185 : decode cX8_look 185 = .ok (.istore 7, 2) := by decide +kernel
theorem dX8_look_187 : decode cX8_look 187 = .ok (.iload 7, 2) := by decide +kernel
theorem dX8_look_189 : decode cX8_look 189 = .ok (.ifCond .eq 20, 3) := by decide +kernel
theorem dX8_look_192 : decode cX8_look 192 = .ok (.bipush 10, 2) := by decide +kernel
theorem dX8_look_194 : decode cX8_look 194 = .ok (.iload 5, 2) := by decide +kernel
theorem dX8_look_196 : decode cX8_look 196 = .ok (.bipush 6, 2) := by decide +kernel
theorem dX8_look_198 : decode cX8_look 198 = .ok (.idiv, 1) := by decide +kernel
theorem dX8_look_199 : decode cX8_look 199 = .ok (.imul, 1) := by decide +kernel
theorem dX8_look_200 : decode cX8_look 200 = .ok (.iload 5, 2) := by decide +kernel
theorem dX8_look_202 : decode cX8_look 202 = .ok (.bipush 6, 2) := by decide +kernel
theorem dX8_look_204 : decode cX8_look 204 = .ok (.irem, 1) := by decide +kernel
theorem dX8_look_205 : decode cX8_look 205 = .ok (.iadd, 1) := by decide +kernel
theorem dX8_look_206 : decode cX8_look 206 = .ok (.goto 5, 3) := by decide +kernel
theorem dX8_look_209 : decode cX8_look 209 = .ok (.iload 4, 2) := by decide +kernel
theorem dX8_look_211 : decode cX8_look 211 = .ok (.istore 4, 2) := by decide +kernel
theorem dX8_look_213 : decode cX8_look 213 = .ok (.iload 7, 2) := by decide +kernel
theorem dX8_look_215 : decode cX8_look 215 = .ok (.ifCond .eq 8, 3) := by decide +kernel
theorem dX8_look_218 : decode cX8_look 218 = .ok (.iload 6, 2) := by decide +kernel
theorem dX8_look_220 : decode cX8_look 220 = .ok (.goto 4, 3) := by decide +kernel
theorem dX8_look_223 : decode cX8_look 223 = .ok (.iload_n 3, 1) := by decide +kernel
theorem dX8_look_224 : decode cX8_look 224 = .ok (.istore_n 3, 1) := by decide +kernel
theorem dX8_look_225 : decode cX8_look 225 = .ok (.iinc 5 1, 3) := by decide +kernel
theorem dX8_look_228 : decode cX8_look 228 = .ok (.goto (-113), 3) := by decide +kernel
theorem dX8_look_231 : decode cX8_look 231 = .ok (.iload 4, 2) := by decide +kernel
theorem dX8_look_233 : decode cX8_look 233 = .ok (.bipush (-4), 2) := by decide +kernel
theorem dX8_look_235 : decode cX8_look 235 = .ok (.if_icmp .eq 7, 3) := by decide +kernel
theorem dX8_look_238 : decode cX8_look 238 = .ok (.iload_n 1, 1) := by decide +kernel
theorem dX8_look_239 : decode cX8_look 239 = .ok (.ifCond .ne 8, 3) := by decide +kernel
theorem dX8_look_242 : decode cX8_look 242 = .ok (.iload 4, 2) := by decide +kernel
theorem dX8_look_244 : decode cX8_look 244 = .ok (.goto 4, 3) := by decide +kernel
theorem dX8_look_247 : decode cX8_look 247 = .ok (.iload_n 3, 1) := by decide +kernel
theorem dX8_look_248 : decode cX8_look 248 = .ok (.ireturn, 1) := by decide +kernel
theorem dX8_drift_0 : decode cX8_drift 0 = .ok (.iload_n 2, 1) := by decide +kernel
theorem dX8_drift_1 : decode cX8_drift 1 = .ok (.i2l, 1) := by decide +kernel
theorem dX8_drift_2 : decode cX8_drift 2 = .ok (.lconst 1, 1) := by decide +kernel
theorem dX8_drift_3 : decode cX8_drift 3 = .ok (.ldc2_w 275, 3) := by decide +kernel
theorem dX8_drift_6 : decode cX8_drift 6 = .ok (.invokestatic 46, 3) := by decide +kernel
theorem dX8_drift_9 : decode cX8_drift 9 = .ok (.ifCond .eq 13, 3) := by decide +kernel
theorem dX8_drift_12 : decode cX8_drift 12 = .ok (.iload_n 3, 1) := by decide +kernel
theorem dX8_drift_13 : decode cX8_drift 13 = .ok (.i2l, 1) := by decide +kernel
theorem dX8_drift_14 : decode cX8_drift 14 = .ok (.lconst 0, 1) := by decide +kernel
theorem dX8_drift_15 : decode cX8_drift 15 = .ok (.lconst 1, 1) := by decide +kernel
theorem dX8_drift_16 : decode cX8_drift 16 = .ok (.invokestatic 46, 3) := by decide +kernel
theorem dX8_drift_19 : decode cX8_drift 19 = .ok (.ifCond .ne 5, 3) := by decide +kernel
theorem dX8_drift_22 : decode cX8_drift 22 = .ok (.iconst (-1), 1) := by decide +kernel
theorem dX8_drift_23 : decode cX8_drift 23 = .ok (.ireturn, 1) := by decide +kernel
theorem dX8_drift_24 : decode cX8_drift 24 = .ok (.aload_n 0, 1) := by decide +kernel
theorem dX8_drift_25 : decode cX8_drift 25 = .ok (.getfield 125, 3) := by decide +kernel
theorem dX8_drift_28 : decode cX8_drift 28 = .ok (.ifCond .ne 6, 3) := by decide +kernel
theorem dX8_drift_31 : decode cX8_drift 31 = .ok (.bipush (-2), 2) := by decide +kernel
theorem dX8_drift_33 : decode cX8_drift 33 = .ok (.ireturn, 1) := by decide +kernel
theorem dX8_drift_34 : decode cX8_drift 34 = .ok (.iload_n 1, 1) := by decide +kernel
theorem dX8_drift_35 : decode cX8_drift 35 = .ok (.istore 4, 2) := by decide +kernel
theorem dX8_drift_37 : decode cX8_drift 37 = .ok (.aload_n 0, 1) := by decide +kernel
theorem dX8_drift_38 : decode cX8_drift 38 = .ok (.getfield 7, 3) := by decide +kernel
theorem dX8_drift_41 : decode cX8_drift 41 = .ok (.bipush 18, 2) := by decide +kernel
theorem dX8_drift_43 : decode cX8_drift 43 = .ok (.iaload, 1) := by decide +kernel
theorem dX8_drift_44 : decode cX8_drift 44 = .ok (.istore 5, 2) := by decide +kernel
theorem dX8_drift_46 : decode cX8_drift 46 = .ok (.iconst 0, 1) := by decide +kernel
theorem dX8_drift_47 : decode cX8_drift 47 = .ok (.istore 6, 2) := by decide +kernel
theorem dX8_drift_49 : decode cX8_drift 49 = .ok (.iconst 0, 1) := by decide +kernel
theorem dX8_drift_50 : decode cX8_drift 50 = .ok (.istore 7, 2) := by decide +kernel
theorem dX8_drift_52 : decode cX8_drift 52 = .ok (.iload 7, 2) := by decide +kernel
theorem dX8_drift_54 : decode cX8_drift 54 = .ok (.iload_n 2, 1) := by decide +kernel
theorem dX8_drift_55 : decode cX8_drift 55 = .ok (.if_icmp .ge 65, 3) := by decide +kernel
theorem dX8_drift_58 : decode cX8_drift 58 = .ok (.iload 4, 2) := by decide +kernel
theorem dX8_drift_60 : decode cX8_drift 60 = .ok (.ldc_w 277, 3) := by decide +kernel
theorem dX8_drift_63 : decode cX8_drift 63 = .ok (.imul, 1) := by decide +kernel
theorem dX8_drift_64 : decode cX8_drift 64 = .ok (.sipush 12345, 3) := by decide +kernel
theorem dX8_drift_67 : decode cX8_drift 67 = .ok (.iadd, 1) := by decide +kernel
theorem dX8_drift_68 : decode cX8_drift 68 = .ok (.istore 4, 2) := by decide +kernel
theorem dX8_drift_70 : decode cX8_drift 70 = .ok (.aload_n 0, 1) := by decide +kernel
theorem dX8_drift_71 : decode cX8_drift 71 = .ok (.iload 5, 2) := by decide +kernel
theorem dX8_drift_73 : decode cX8_drift 73 = .ok (.iconst 1, 1) := by decide +kernel
theorem dX8_drift_74 : decode cX8_drift 74 = .ok (.iload 4, 2) := by decide +kernel
theorem dX8_drift_76 : decode cX8_drift 76 = .ok (.bipush 16, 2) := by decide +kernel
theorem dX8_drift_78 : decode cX8_drift 78 = .ok (.ishr, 1) := by decide +kernel
theorem dX8_drift_79 : decode cX8_drift 79 = .ok (.sipush 32767, 3) := by decide +kernel
theorem dX8_drift_82 : decode cX8_drift 82 = .ok (.iand, 1) := by decide +kernel
theorem dX8_drift_83 : decode cX8_drift 83 = .ok (.aload_n 0, 1) := by decide +kernel
theorem dX8_drift_84 : decode cX8_drift 84 = .ok (.getfield 125, 3) := by decide +kernel
theorem dX8_drift_87 : decode cX8_drift 87 = .ok (.irem, 1) := by decide +kernel
theorem dX8_drift_88 : decode cX8_drift 88 = .ok (.ishl, 1) := by decide +kernel
theorem dX8_drift_89 : decode cX8_drift 89 = .ok (.ixor, 1) := by decide +kernel
theorem dX8_drift_90 : decode cX8_drift 90 = .ok (.invokevirtual 147, 3) := by decide +kernel
theorem dX8_drift_93 : decode cX8_drift 93 = .ok (.istore 5, 2) := by decide +kernel
theorem dX8_drift_95 : decode cX8_drift 95 = .ok (.iload 6, 2) := by decide +kernel
theorem dX8_drift_97 : decode cX8_drift 97 = .ok (.aload_n 0, 1) := by decide +kernel
theorem dX8_drift_98 : decode cX8_drift 98 = .ok (.iload 5, 2) := by decide +kernel
theorem dX8_drift_100 : decode cX8_drift 100 = .ok (.invokevirtual 153, 3) := by decide +kernel
theorem dX8_drift_103 : decode cX8_drift 103 = .ok (.ifCond .eq 7, 3) := by decide +kernel
theorem dX8_drift_106 : decode cX8_drift 106 = .ok (.iconst 1, 1) := by decide +kernel
theorem dX8_drift_107 : decode cX8_drift 107 = .ok (.goto 4, 3) := by decide +kernel
theorem dX8_drift_110 : decode cX8_drift 110 = .ok (.iconst 0, 1) := by decide +kernel
theorem dX8_drift_111 : decode cX8_drift 111 = .ok (.iadd, 1) := by decide +kernel
theorem dX8_drift_112 : decode cX8_drift 112 = .ok (.istore 6, 2) := by decide +kernel
theorem dX8_drift_114 : decode cX8_drift 114 = .ok (.iinc 7 1, 3) := by decide +kernel
theorem dX8_drift_117 : decode cX8_drift 117 = .ok (.goto (-65), 3) := by decide +kernel
theorem dX8_drift_120 : decode cX8_drift 120 = .ok (.iload_n 3, 1) := by decide +kernel
theorem dX8_drift_121 : decode cX8_drift 121 = .ok (.ifCond .ne 8, 3) := by decide +kernel
theorem dX8_drift_124 : decode cX8_drift 124 = .ok (.iload 6, 2) := by decide +kernel
theorem dX8_drift_126 : decode cX8_drift 126 = .ok (.goto 5, 3) := by decide +kernel
theorem dX8_drift_129 : decode cX8_drift 129 = .ok (.iload 5, 2) := by decide +kernel
theorem dX8_drift_131 : decode cX8_drift 131 = .ok (.ireturn, 1) := by decide +kernel
theorem dX8_copies_0 : decode cX8_copies 0 = .ok (.iconst 0, 1) := by decide +kernel
theorem dX8_copies_1 : decode cX8_copies 1 = .ok (.istore_n 3, 1) := by decide +kernel
theorem dX8_copies_2 : decode cX8_copies 2 = .ok (.iload_n 3, 1) := by decide +kernel
theorem dX8_copies_3 : decode cX8_copies 3 = .ok (.bipush 37, 2) := by decide +kernel
theorem dX8_copies_5 : decode cX8_copies 5 = .ok (.if_icmp .ge 25, 3) := by decide +kernel
theorem dX8_copies_8 : decode cX8_copies 8 = .ok (.aload_n 0, 1) := by decide +kernel
theorem dX8_copies_9 : decode cX8_copies 9 = .ok (.getfield 7, 3) := by decide +kernel
theorem dX8_copies_12 : decode cX8_copies 12 = .ok (.iload_n 2, 1) := by decide +kernel
theorem dX8_copies_13 : decode cX8_copies 13 = .ok (.iload_n 3, 1) := by decide +kernel
theorem dX8_copies_14 : decode cX8_copies 14 = .ok (.iadd, 1) := by decide +kernel
theorem dX8_copies_15 : decode cX8_copies 15 = .ok (.aload_n 0, 1) := by decide +kernel
theorem dX8_copies_16 : decode cX8_copies 16 = .ok (.getfield 7, 3) := by decide +kernel
theorem dX8_copies_19 : decode cX8_copies 19 = .ok (.iload_n 1, 1) := by decide +kernel
theorem dX8_copies_20 : decode cX8_copies 20 = .ok (.iload_n 3, 1) := by decide +kernel
theorem dX8_copies_21 : decode cX8_copies 21 = .ok (.iadd, 1) := by decide +kernel
theorem dX8_copies_22 : decode cX8_copies 22 = .ok (.iaload, 1) := by decide +kernel
theorem dX8_copies_23 : decode cX8_copies 23 = .ok (.iastore, 1) := by decide +kernel
theorem dX8_copies_24 : decode cX8_copies 24 = .ok (.iinc 3 1, 3) := by decide +kernel
theorem dX8_copies_27 : decode cX8_copies 27 = .ok (.goto (-25), 3) := by decide +kernel
theorem dX8_copies_30 : decode cX8_copies 30 = .ok (.return_, 1) := by decide +kernel
theorem dX8_keep_0 : decode cX8_keep 0 = .ok (.iload_n 1, 1) := by decide +kernel
theorem dX8_keep_1 : decode cX8_keep 1 = .ok (.i2l, 1) := by decide +kernel
theorem dX8_keep_2 : decode cX8_keep 2 = .ok (.lconst 0, 1) := by decide +kernel
theorem dX8_keep_3 : decode cX8_keep 3 = .ok (.lconst 1, 1) := by decide +kernel
theorem dX8_keep_4 : decode cX8_keep 4 = .ok (.invokestatic 46, 3) := by decide +kernel
theorem dX8_keep_7 : decode cX8_keep 7 = .ok (.ifCond .ne 5, 3) := by decide +kernel
theorem dX8_keep_10 : decode cX8_keep 10 = .ok (.iconst (-1), 1) := by decide +kernel
theorem dX8_keep_11 : decode cX8_keep 11 = .ok (.ireturn, 1) := by decide +kernel
theorem dX8_keep_12 : decode cX8_keep 12 = .ok (.aload_n 0, 1) := by decide +kernel
theorem dX8_keep_13 : decode cX8_keep 13 = .ok (.iconst 0, 1) := by decide +kernel
theorem dX8_keep_14 : decode cX8_keep 14 = .ok (.bipush 37, 2) := by decide +kernel
theorem dX8_keep_16 : decode cX8_keep 16 = .ok (.iload_n 1, 1) := by decide +kernel
theorem dX8_keep_17 : decode cX8_keep 17 = .ok (.iconst 1, 1) := by decide +kernel
theorem dX8_keep_18 : decode cX8_keep 18 = .ok (.iadd, 1) := by decide +kernel
theorem dX8_keep_19 : decode cX8_keep 19 = .ok (.imul, 1) := by decide +kernel
theorem dX8_keep_20 : decode cX8_keep 20 = .ok (.invokevirtual 278, 3) := by decide +kernel
theorem dX8_keep_23 : decode cX8_keep 23 = .ok (.aload_n 0, 1) := by decide +kernel
theorem dX8_keep_24 : decode cX8_keep 24 = .ok (.getfield 31, 3) := by decide +kernel
theorem dX8_keep_27 : decode cX8_keep 27 = .ok (.iload_n 1, 1) := by decide +kernel
theorem dX8_keep_28 : decode cX8_keep 28 = .ok (.baload, 1) := by decide +kernel
theorem dX8_keep_29 : decode cX8_keep 29 = .ok (.ifCond .eq 7, 3) := by decide +kernel
theorem dX8_keep_32 : decode cX8_keep 32 = .ok (.iconst 1, 1) := by decide +kernel
theorem dX8_keep_33 : decode cX8_keep 33 = .ok (.goto 4, 3) := by decide +kernel
theorem dX8_keep_36 : decode cX8_keep 36 = .ok (.iconst 0, 1) := by decide +kernel
theorem dX8_keep_37 : decode cX8_keep 37 = .ok (.istore_n 2, 1) := by decide +kernel
theorem dX8_keep_38 : decode cX8_keep 38 = .ok (.aload_n 0, 1) := by decide +kernel
theorem dX8_keep_39 : decode cX8_keep 39 = .ok (.getfield 31, 3) := by decide +kernel
theorem dX8_keep_42 : decode cX8_keep 42 = .ok (.iload_n 1, 1) := by decide +kernel
theorem dX8_keep_43 : decode cX8_keep 43 = .ok (.iconst 1, 1) := by decide +kernel
theorem dX8_keep_44 : decode cX8_keep 44 = .ok (.bastore, 1) := by decide +kernel
theorem dX8_keep_45 : decode cX8_keep 45 = .ok (.iload_n 2, 1) := by decide +kernel
theorem dX8_keep_46 : decode cX8_keep 46 = .ok (.ireturn, 1) := by decide +kernel
theorem dX8_back_0 : decode cX8_back 0 = .ok (.iload_n 1, 1) := by decide +kernel
theorem dX8_back_1 : decode cX8_back 1 = .ok (.i2l, 1) := by decide +kernel
theorem dX8_back_2 : decode cX8_back 2 = .ok (.lconst 0, 1) := by decide +kernel
theorem dX8_back_3 : decode cX8_back 3 = .ok (.lconst 1, 1) := by decide +kernel
theorem dX8_back_4 : decode cX8_back 4 = .ok (.invokestatic 46, 3) := by decide +kernel
theorem dX8_back_7 : decode cX8_back 7 = .ok (.ifCond .ne 5, 3) := by decide +kernel
theorem dX8_back_10 : decode cX8_back 10 = .ok (.iconst (-1), 1) := by decide +kernel
theorem dX8_back_11 : decode cX8_back 11 = .ok (.ireturn, 1) := by decide +kernel
theorem dX8_back_12 : decode cX8_back 12 = .ok (.aload_n 0, 1) := by decide +kernel
theorem dX8_back_13 : decode cX8_back 13 = .ok (.getfield 31, 3) := by decide +kernel
theorem dX8_back_16 : decode cX8_back 16 = .ok (.iload_n 1, 1) := by decide +kernel
theorem dX8_back_17 : decode cX8_back 17 = .ok (.baload, 1) := by decide +kernel
theorem dX8_back_18 : decode cX8_back 18 = .ok (.ifCond .ne 6, 3) := by decide +kernel
theorem dX8_back_21 : decode cX8_back 21 = .ok (.bipush (-2), 2) := by decide +kernel
theorem dX8_back_23 : decode cX8_back 23 = .ok (.ireturn, 1) := by decide +kernel
theorem dX8_back_24 : decode cX8_back 24 = .ok (.aload_n 0, 1) := by decide +kernel
theorem dX8_back_25 : decode cX8_back 25 = .ok (.bipush 37, 2) := by decide +kernel
theorem dX8_back_27 : decode cX8_back 27 = .ok (.iload_n 1, 1) := by decide +kernel
theorem dX8_back_28 : decode cX8_back 28 = .ok (.iconst 1, 1) := by decide +kernel
theorem dX8_back_29 : decode cX8_back 29 = .ok (.iadd, 1) := by decide +kernel
theorem dX8_back_30 : decode cX8_back 30 = .ok (.imul, 1) := by decide +kernel
theorem dX8_back_31 : decode cX8_back 31 = .ok (.iconst 0, 1) := by decide +kernel
theorem dX8_back_32 : decode cX8_back 32 = .ok (.invokevirtual 278, 3) := by decide +kernel
theorem dX8_back_35 : decode cX8_back 35 = .ok (.aload_n 0, 1) := by decide +kernel
theorem dX8_back_36 : decode cX8_back 36 = .ok (.getfield 7, 3) := by decide +kernel
theorem dX8_back_39 : decode cX8_back 39 = .ok (.bipush 36, 2) := by decide +kernel
theorem dX8_back_41 : decode cX8_back 41 = .ok (.iaload, 1) := by decide +kernel
theorem dX8_back_42 : decode cX8_back 42 = .ok (.ireturn, 1) := by decide +kernel
theorem dX8_sheet_0 : decode cX8_sheet 0 = .ok (.iload_n 1, 1) := by decide +kernel
theorem dX8_sheet_1 : decode cX8_sheet 1 = .ok (.i2l, 1) := by decide +kernel
theorem dX8_sheet_2 : decode cX8_sheet 2 = .ok (.lconst 0, 1) := by decide +kernel
theorem dX8_sheet_3 : decode cX8_sheet 3 = .ok (.ldc2_w 194, 3) := by decide +kernel
theorem dX8_sheet_6 : decode cX8_sheet 6 = .ok (.invokestatic 46, 3) := by decide +kernel
theorem dX8_sheet_9 : decode cX8_sheet 9 = .ok (.ifCond .eq 21, 3) := by decide +kernel
theorem dX8_sheet_12 : decode cX8_sheet 12 = .ok (.iload_n 2, 1) := by decide +kernel
theorem dX8_sheet_13 : decode cX8_sheet 13 = .ok (.i2l, 1) := by decide +kernel
theorem dX8_sheet_14 : decode cX8_sheet 14 = .ok (.lconst 0, 1) := by decide +kernel
theorem dX8_sheet_15 : decode cX8_sheet 15 = .ok (.ldc2_w 169, 3) := by decide +kernel
theorem dX8_sheet_18 : decode cX8_sheet 18 = .ok (.invokestatic 46, 3) := by decide +kernel
theorem dX8_sheet_21 : decode cX8_sheet 21 = .ok (.ifCond .eq 9, 3) := by decide +kernel
theorem dX8_sheet_24 : decode cX8_sheet 24 = .ok (.iload_n 3, 1) := by decide +kernel
theorem dX8_sheet_25 : decode cX8_sheet 25 = .ok (.bipush 40, 2) := by decide +kernel
theorem dX8_sheet_27 : decode cX8_sheet 27 = .ok (.if_icmp .le 5, 3) := by decide +kernel
theorem dX8_sheet_30 : decode cX8_sheet 30 = .ok (.iconst (-1), 1) := by decide +kernel
theorem dX8_sheet_31 : decode cX8_sheet 31 = .ok (.ireturn, 1) := by decide +kernel
theorem dX8_sheet_32 : decode cX8_sheet 32 = .ok (.iload_n 3, 1) := by decide +kernel
theorem dX8_sheet_33 : decode cX8_sheet 33 = .ok (.ifCond .ge 6, 3) := by decide +kernel
theorem dX8_sheet_36 : decode cX8_sheet 36 = .ok (.bipush (-14), 2) := by decide +kernel
theorem dX8_sheet_38 : decode cX8_sheet 38 = .ok (.ireturn, 1) := by decide +kernel
theorem dX8_sheet_39 : decode cX8_sheet 39 = .ok (.aload_n 0, 1) := by decide +kernel
theorem dX8_sheet_40 : decode cX8_sheet 40 = .ok (.getfield 35, 3) := by decide +kernel
theorem dX8_sheet_43 : decode cX8_sheet 43 = .ok (.iload_n 1, 1) := by decide +kernel
theorem dX8_sheet_44 : decode cX8_sheet 44 = .ok (.iload_n 2, 1) := by decide +kernel
theorem dX8_sheet_45 : decode cX8_sheet 45 = .ok (.iastore, 1) := by decide +kernel
theorem dX8_sheet_46 : decode cX8_sheet 46 = .ok (.aload_n 0, 1) := by decide +kernel
theorem dX8_sheet_47 : decode cX8_sheet 47 = .ok (.getfield 38, 3) := by decide +kernel
theorem dX8_sheet_50 : decode cX8_sheet 50 = .ok (.iload_n 1, 1) := by decide +kernel
theorem dX8_sheet_51 : decode cX8_sheet 51 = .ok (.iload_n 3, 1) := by decide +kernel
theorem dX8_sheet_52 : decode cX8_sheet 52 = .ok (.iastore, 1) := by decide +kernel
theorem dX8_sheet_53 : decode cX8_sheet 53 = .ok (.iconst 0, 1) := by decide +kernel
theorem dX8_sheet_54 : decode cX8_sheet 54 = .ok (.istore 4, 2) := by decide +kernel
theorem dX8_sheet_56 : decode cX8_sheet 56 = .ok (.iload 4, 2) := by decide +kernel
theorem dX8_sheet_58 : decode cX8_sheet 58 = .ok (.bipush 40, 2) := by decide +kernel
theorem dX8_sheet_60 : decode cX8_sheet 60 = .ok (.if_icmp .ge 22, 3) := by decide +kernel
theorem dX8_sheet_63 : decode cX8_sheet 63 = .ok (.aload_n 0, 1) := by decide +kernel
theorem dX8_sheet_64 : decode cX8_sheet 64 = .ok (.getfield 41, 3) := by decide +kernel
theorem dX8_sheet_67 : decode cX8_sheet 67 = .ok (.bipush 40, 2) := by decide +kernel
theorem dX8_sheet_69 : decode cX8_sheet 69 = .ok (.iload_n 1, 1) := by decide +kernel
theorem dX8_sheet_70 : decode cX8_sheet 70 = .ok (.imul, 1) := by decide +kernel
theorem dX8_sheet_71 : decode cX8_sheet 71 = .ok (.iload 4, 2) := by decide +kernel
theorem dX8_sheet_73 : decode cX8_sheet 73 = .ok (.iadd, 1) := by decide +kernel
theorem dX8_sheet_74 : decode cX8_sheet 74 = .ok (.iconst 0, 1) := by decide +kernel
theorem dX8_sheet_75 : decode cX8_sheet 75 = .ok (.iastore, 1) := by decide +kernel
theorem dX8_sheet_76 : decode cX8_sheet 76 = .ok (.iinc 4 1, 3) := by decide +kernel
theorem dX8_sheet_79 : decode cX8_sheet 79 = .ok (.goto (-23), 3) := by decide +kernel
theorem dX8_sheet_82 : decode cX8_sheet 82 = .ok (.iconst 1, 1) := by decide +kernel
theorem dX8_sheet_83 : decode cX8_sheet 83 = .ok (.ireturn, 1) := by decide +kernel
theorem dX8_lay_0 : decode cX8_lay 0 = .ok (.iload_n 1, 1) := by decide +kernel
theorem dX8_lay_1 : decode cX8_lay 1 = .ok (.i2l, 1) := by decide +kernel
theorem dX8_lay_2 : decode cX8_lay 2 = .ok (.lconst 0, 1) := by decide +kernel
theorem dX8_lay_3 : decode cX8_lay 3 = .ok (.ldc2_w 194, 3) := by decide +kernel
theorem dX8_lay_6 : decode cX8_lay 6 = .ok (.invokestatic 46, 3) := by decide +kernel
theorem dX8_lay_9 : decode cX8_lay 9 = .ok (.ifCond .ne 5, 3) := by decide +kernel
theorem dX8_lay_12 : decode cX8_lay 12 = .ok (.iconst (-1), 1) := by decide +kernel
theorem dX8_lay_13 : decode cX8_lay 13 = .ok (.ireturn, 1) := by decide +kernel
theorem dX8_lay_14 : decode cX8_lay 14 = .ok (.aload_n 0, 1) := by decide +kernel
theorem dX8_lay_15 : decode cX8_lay 15 = .ok (.getfield 35, 3) := by decide +kernel
theorem dX8_lay_18 : decode cX8_lay 18 = .ok (.iload_n 1, 1) := by decide +kernel
theorem dX8_lay_19 : decode cX8_lay 19 = .ok (.iaload, 1) := by decide +kernel
theorem dX8_lay_20 : decode cX8_lay 20 = .ok (.bipush (-4), 2) := by decide +kernel
theorem dX8_lay_22 : decode cX8_lay 22 = .ok (.if_icmp .ne 6, 3) := by decide +kernel
theorem dX8_lay_25 : decode cX8_lay 25 = .ok (.bipush (-11), 2) := by decide +kernel
theorem dX8_lay_27 : decode cX8_lay 27 = .ok (.ireturn, 1) := by decide +kernel
theorem dX8_lay_28 : decode cX8_lay 28 = .ok (.iload_n 2, 1) := by decide +kernel
theorem dX8_lay_29 : decode cX8_lay 29 = .ok (.i2l, 1) := by decide +kernel
theorem dX8_lay_30 : decode cX8_lay 30 = .ok (.lconst 0, 1) := by decide +kernel
theorem dX8_lay_31 : decode cX8_lay 31 = .ok (.aload_n 0, 1) := by decide +kernel
theorem dX8_lay_32 : decode cX8_lay 32 = .ok (.getfield 38, 3) := by decide +kernel
theorem dX8_lay_35 : decode cX8_lay 35 = .ok (.iload_n 1, 1) := by decide +kernel
theorem dX8_lay_36 : decode cX8_lay 36 = .ok (.iaload, 1) := by decide +kernel
theorem dX8_lay_37 : decode cX8_lay 37 = .ok (.iconst 1, 1) := by decide +kernel
theorem dX8_lay_38 : decode cX8_lay 38 = .ok (.isub, 1) := by decide +kernel
theorem dX8_lay_39 : decode cX8_lay 39 = .ok (.i2l, 1) := by decide +kernel
theorem dX8_lay_40 : decode cX8_lay 40 = .ok (.invokestatic 46, 3) := by decide +kernel
theorem dX8_lay_43 : decode cX8_lay 43 = .ok (.ifCond .ne 6, 3) := by decide +kernel
theorem dX8_lay_46 : decode cX8_lay 46 = .ok (.bipush (-12), 2) := by decide +kernel
theorem dX8_lay_48 : decode cX8_lay 48 = .ok (.ireturn, 1) := by decide +kernel
theorem dX8_lay_49 : decode cX8_lay 49 = .ok (.aload_n 0, 1) := by decide +kernel
theorem dX8_lay_50 : decode cX8_lay 50 = .ok (.getfield 41, 3) := by decide +kernel
theorem dX8_lay_53 : decode cX8_lay 53 = .ok (.bipush 40, 2) := by decide +kernel
theorem dX8_lay_55 : decode cX8_lay 55 = .ok (.iload_n 1, 1) := by decide +kernel
theorem dX8_lay_56 : decode cX8_lay 56 = .ok (.imul, 1) := by decide +kernel
theorem dX8_lay_57 : decode cX8_lay 57 = .ok (.iload_n 2, 1) := by decide +kernel
theorem dX8_lay_58 : decode cX8_lay 58 = .ok (.iadd, 1) := by decide +kernel
theorem dX8_lay_59 : decode cX8_lay 59 = .ok (.aload_n 0, 1) := by decide +kernel
theorem dX8_lay_60 : decode cX8_lay 60 = .ok (.getfield 35, 3) := by decide +kernel
theorem dX8_lay_63 : decode cX8_lay 63 = .ok (.iload_n 1, 1) := by decide +kernel
theorem dX8_lay_64 : decode cX8_lay 64 = .ok (.iaload, 1) := by decide +kernel
theorem dX8_lay_65 : decode cX8_lay 65 = .ok (.ifCond .ne 13, 3) := by decide +kernel
theorem dX8_lay_68 : decode cX8_lay 68 = .ok (.iload_n 3, 1) := by decide +kernel
theorem dX8_lay_69 : decode cX8_lay 69 = .ok (.bipush 24, 2) := by decide +kernel
theorem dX8_lay_71 : decode cX8_lay 71 = .ok (.ishl, 1) := by decide +kernel
theorem dX8_lay_72 : decode cX8_lay 72 = .ok (.bipush 24, 2) := by decide +kernel
theorem dX8_lay_74 : decode cX8_lay 74 = .ok (.ishr, 1) := by decide +kernel
theorem dX8_lay_75 : decode cX8_lay 75 = .ok (.goto 24, 3) := by decide +kernel
theorem dX8_lay_78 : decode cX8_lay 78 = .ok (.aload_n 0, 1) := by decide +kernel
theorem dX8_lay_79 : decode cX8_lay 79 = .ok (.getfield 35, 3) := by decide +kernel
theorem dX8_lay_82 : decode cX8_lay 82 = .ok (.iload_n 1, 1) := by decide +kernel
theorem dX8_lay_83 : decode cX8_lay 83 = .ok (.iaload, 1) := by decide +kernel
theorem dX8_lay_84 : decode cX8_lay 84 = .ok (.iconst 1, 1) := by decide +kernel
theorem dX8_lay_85 : decode cX8_lay 85 = .ok (.if_icmp .ne 13, 3) := by decide +kernel
theorem dX8_lay_88 : decode cX8_lay 88 = .ok (.iload_n 3, 1) := by decide +kernel
theorem dX8_lay_89 : decode cX8_lay 89 = .ok (.bipush 16, 2) := by decide +kernel
theorem dX8_lay_91 : decode cX8_lay 91 = .ok (.ishl, 1) := by decide +kernel
theorem dX8_lay_92 : decode cX8_lay 92 = .ok (.bipush 16, 2) := by decide +kernel
theorem dX8_lay_94 : decode cX8_lay 94 = .ok (.ishr, 1) := by decide +kernel
theorem dX8_lay_95 : decode cX8_lay 95 = .ok (.goto 4, 3) := by decide +kernel
theorem dX8_lay_98 : decode cX8_lay 98 = .ok (.iload_n 3, 1) := by decide +kernel
theorem dX8_lay_99 : decode cX8_lay 99 = .ok (.iastore, 1) := by decide +kernel
theorem dX8_lay_100 : decode cX8_lay 100 = .ok (.iconst 1, 1) := by decide +kernel
theorem dX8_lay_101 : decode cX8_lay 101 = .ok (.ireturn, 1) := by decide +kernel
theorem dX8_read_0 : decode cX8_read 0 = .ok (.iload_n 1, 1) := by decide +kernel
theorem dX8_read_1 : decode cX8_read 1 = .ok (.i2l, 1) := by decide +kernel
theorem dX8_read_2 : decode cX8_read 2 = .ok (.lconst 0, 1) := by decide +kernel
theorem dX8_read_3 : decode cX8_read 3 = .ok (.ldc2_w 194, 3) := by decide +kernel
theorem dX8_read_6 : decode cX8_read 6 = .ok (.invokestatic 46, 3) := by decide +kernel
theorem dX8_read_9 : decode cX8_read 9 = .ok (.ifCond .eq 28, 3) := by decide +kernel
theorem dX8_read_12 : decode cX8_read 12 = .ok (.iload_n 2, 1) := by decide +kernel
theorem dX8_read_13 : decode cX8_read 13 = .ok (.i2l, 1) := by decide +kernel
theorem dX8_read_14 : decode cX8_read 14 = .ok (.lconst 0, 1) := by decide +kernel
theorem dX8_read_15 : decode cX8_read 15 = .ok (.ldc2_w 169, 3) := by decide +kernel
theorem dX8_read_18 : decode cX8_read 18 = .ok (.invokestatic 46, 3) := by decide +kernel
theorem dX8_read_21 : decode cX8_read 21 = .ok (.ifCond .eq 16, 3) := by decide +kernel
theorem dX8_read_24 : decode cX8_read 24 = .ok (.iload 4, 2) := by decide +kernel
theorem dX8_read_26 : decode cX8_read 26 = .ok (.i2l, 1) := by decide +kernel
theorem dX8_read_27 : decode cX8_read 27 = .ok (.lconst 0, 1) := by decide +kernel
theorem dX8_read_28 : decode cX8_read 28 = .ok (.ldc2_w 282, 3) := by decide +kernel
theorem dX8_read_31 : decode cX8_read 31 = .ok (.invokestatic 46, 3) := by decide +kernel
theorem dX8_read_34 : decode cX8_read 34 = .ok (.ifCond .ne 5, 3) := by decide +kernel
theorem dX8_read_37 : decode cX8_read 37 = .ok (.iconst (-1), 1) := by decide +kernel
theorem dX8_read_38 : decode cX8_read 38 = .ok (.ireturn, 1) := by decide +kernel
theorem dX8_read_39 : decode cX8_read 39 = .ok (.aload_n 0, 1) := by decide +kernel
theorem dX8_read_40 : decode cX8_read 40 = .ok (.iconst 0, 1) := by decide +kernel
theorem dX8_read_41 : decode cX8_read 41 = .ok (.bipush 111, 2) := by decide +kernel
theorem dX8_read_43 : decode cX8_read 43 = .ok (.invokevirtual 278, 3) := by decide +kernel
theorem dX8_read_46 : decode cX8_read 46 = .ok (.iconst 0, 1) := by decide +kernel
theorem dX8_read_47 : decode cX8_read 47 = .ok (.istore 5, 2) := by decide +kernel
theorem dX8_read_49 : decode cX8_read 49 = .ok (.iconst 0, 1) := by decide +kernel
theorem dX8_read_50 : decode cX8_read 50 = .ok (.istore 6, 2) := by decide +kernel
theorem dX8_read_52 : decode cX8_read 52 = .ok (.iconst 0, 1) := by decide +kernel
theorem dX8_read_53 : decode cX8_read 53 = .ok (.istore 7, 2) := by decide +kernel
theorem dX8_read_55 : decode cX8_read 55 = .ok (.iload 7, 2) := by decide +kernel
theorem dX8_read_57 : decode cX8_read 57 = .ok (.iload 4, 2) := by decide +kernel
theorem dX8_read_59 : decode cX8_read 59 = .ok (.if_icmp .ge 133, 3) := by decide +kernel
theorem dX8_read_62 : decode cX8_read 62 = .ok (.iload 5, 2) := by decide +kernel
theorem dX8_read_64 : decode cX8_read 64 = .ok (.ifCond .ne 128, 3) := by decide +kernel
theorem dX8_read_67 : decode cX8_read 67 = .ok (.aload_n 0, 1) := by decide +kernel
theorem dX8_read_68 : decode cX8_read 68 = .ok (.getfield 35, 3) := by decide +kernel
theorem dX8_read_71 : decode cX8_read 71 = .ok (.iload_n 1, 1) := by decide +kernel
theorem dX8_read_72 : decode cX8_read 72 = .ok (.iaload, 1) := by decide +kernel
theorem dX8_read_73 : decode cX8_read 73 = .ok (.bipush (-4), 2) := by decide +kernel
theorem dX8_read_75 : decode cX8_read 75 = .ok (.if_icmp .ne 7, 3) := by decide +kernel
theorem dX8_read_78 : decode cX8_read 78 = .ok (.iconst 1, 1) := by decide +kernel
theorem dX8_read_79 : decode cX8_read 79 = .ok (.goto 44, 3) := by decide +kernel
theorem dX8_read_82 : decode cX8_read 82 = .ok (.aload_n 0, 1) := by decide +kernel
theorem dX8_read_83 : decode cX8_read 83 = .ok (.getfield 35, 3) := by decide +kernel
theorem dX8_read_86 : decode cX8_read 86 = .ok (.iload_n 1, 1) := by decide +kernel
theorem dX8_read_87 : decode cX8_read 87 = .ok (.iaload, 1) := by decide +kernel
theorem dX8_read_88 : decode cX8_read 88 = .ok (.iload_n 2, 1) := by decide +kernel
theorem dX8_read_89 : decode cX8_read 89 = .ok (.if_icmp .eq 7, 3) := by decide +kernel
theorem dX8_read_92 : decode cX8_read 92 = .ok (.iconst 3, 1) := by decide +kernel
theorem dX8_read_93 : decode cX8_read 93 = .ok (.goto 30, 3) := by decide +kernel
theorem dX8_read_96 : decode cX8_read 96 = .ok (.iload_n 3, 1) := by decide +kernel
theorem dX8_read_97 : decode cX8_read 97 = .ok (.i2l, 1) := by decide +kernel
theorem dX8_read_98 : decode cX8_read 98 = .ok (.iload 7, 2) := by decide +kernel
theorem dX8_read_100 : decode cX8_read 100 = .ok (.i2l, 1) := by decide +kernel
theorem dX8_read_101 : decode cX8_read 101 = .ok (.ladd, 1) := by decide +kernel
theorem dX8_read_102 : decode cX8_read 102 = .ok (.lconst 0, 1) := by decide +kernel
theorem dX8_read_103 : decode cX8_read 103 = .ok (.aload_n 0, 1) := by decide +kernel
theorem dX8_read_104 : decode cX8_read 104 = .ok (.getfield 38, 3) := by decide +kernel
theorem dX8_read_107 : decode cX8_read 107 = .ok (.iload_n 1, 1) := by decide +kernel
theorem dX8_read_108 : decode cX8_read 108 = .ok (.iaload, 1) := by decide +kernel
theorem dX8_read_109 : decode cX8_read 109 = .ok (.iconst 1, 1) := by decide +kernel
theorem dX8_read_110 : decode cX8_read 110 = .ok (.isub, 1) := by decide +kernel
theorem dX8_read_111 : decode cX8_read 111 = .ok (.i2l, 1) := by decide +kernel
theorem dX8_read_112 : decode cX8_read 112 = .ok (.invokestatic 46, 3) := by decide +kernel
theorem dX8_read_115 : decode cX8_read 115 = .ok (.ifCond .ne 7, 3) := by decide +kernel
theorem dX8_read_118 : decode cX8_read 118 = .ok (.iconst 2, 1) := by decide +kernel
theorem dX8_read_119 : decode cX8_read 119 = .ok (.goto 4, 3) := by decide +kernel
theorem dX8_read_122 : decode cX8_read 122 = .ok (.iconst 0, 1) := by decide +kernel
theorem dX8_read_123 : decode cX8_read 123 = .ok (.istore 5, 2) := by decide +kernel
theorem dX8_read_125 : decode cX8_read 125 = .ok (.iload 5, 2) := by decide +kernel
theorem dX8_read_127 : decode cX8_read 127 = .ok (.ifCond .ne 59, 3) := by decide +kernel
theorem dX8_read_130 : decode cX8_read 130 = .ok (.aload_n 0, 1) := by decide +kernel
theorem dX8_read_131 : decode cX8_read 131 = .ok (.getfield 7, 3) := by decide +kernel
theorem dX8_read_134 : decode cX8_read 134 = .ok (.bipush 36, 2) := by decide +kernel
theorem dX8_read_136 : decode cX8_read 136 = .ok (.iaload, 1) := by decide +kernel
theorem dX8_read_137 : decode cX8_read 137 = .ok (.sipush 999, 3) := by decide +kernel
theorem dX8_read_140 : decode cX8_read 140 = .ok (.if_icmp .eq 24, 3) := by decide +kernel
theorem dX8_read_143 : decode cX8_read 143 = .ok (.aload_n 0, 1) := by decide +kernel
theorem dX8_read_144 : decode cX8_read 144 = .ok (.aload_n 0, 1) := by decide +kernel
theorem dX8_read_145 : decode cX8_read 145 = .ok (.getfield 41, 3) := by decide +kernel
theorem dX8_read_148 : decode cX8_read 148 = .ok (.bipush 40, 2) := by decide +kernel
theorem dX8_read_150 : decode cX8_read 150 = .ok (.iload_n 1, 1) := by decide +kernel
theorem dX8_read_151 : decode cX8_read 151 = .ok (.imul, 1) := by decide +kernel
theorem dX8_read_152 : decode cX8_read 152 = .ok (.iload_n 3, 1) := by decide +kernel
theorem dX8_read_153 : decode cX8_read 153 = .ok (.iadd, 1) := by decide +kernel
theorem dX8_read_154 : decode cX8_read 154 = .ok (.iload 7, 2) := by decide +kernel
theorem dX8_read_156 : decode cX8_read 156 = .ok (.iadd, 1) := by decide +kernel
theorem dX8_read_157 : decode cX8_read 157 = .ok (.iaload, 1) := by decide +kernel
theorem dX8_read_158 : decode cX8_read 158 = .ok (.invokevirtual 183, 3) := by decide +kernel
theorem dX8_read_161 : decode cX8_read 161 = .ok (.ifCond .ge 16, 3) := by decide +kernel
theorem dX8_read_164 : decode cX8_read 164 = .ok (.aload_n 0, 1) := by decide +kernel
theorem dX8_read_165 : decode cX8_read 165 = .ok (.bipush 111, 2) := by decide +kernel
theorem dX8_read_167 : decode cX8_read 167 = .ok (.iconst 0, 1) := by decide +kernel
theorem dX8_read_168 : decode cX8_read 168 = .ok (.invokevirtual 278, 3) := by decide +kernel
theorem dX8_read_171 : decode cX8_read 171 = .ok (.bipush (-20), 2) := by decide +kernel
theorem dX8_read_173 : decode cX8_read 173 = .ok (.iload 6, 2) := by decide +kernel
theorem dX8_read_175 : decode cX8_read 175 = .ok (.isub, 1) := by decide +kernel
theorem dX8_read_176 : decode cX8_read 176 = .ok (.ireturn, 1) := by decide +kernel
theorem dX8_read_177 : decode cX8_read 177 = .ok (.aload_n 0, 1) := by decide +kernel
theorem dX8_read_178 : decode cX8_read 178 = .ok (.iconst 1, 1) := by decide +kernel
theorem dX8_read_179 : decode cX8_read 179 = .ok (.invokevirtual 284, 3) := by decide +kernel
theorem dX8_read_182 : decode cX8_read 182 = .ok (.pop, 1) := by decide +kernel
theorem dX8_read_183 : decode cX8_read 183 = .ok (.iinc 6 1, 3) := by decide +kernel
theorem dX8_read_186 : decode cX8_read 186 = .ok (.iinc 7 1, 3) := by decide +kernel
theorem dX8_read_189 : decode cX8_read 189 = .ok (.goto (-134), 3) := by decide +kernel
theorem dX8_read_192 : decode cX8_read 192 = .ok (.aload_n 0, 1) := by decide +kernel
theorem dX8_read_193 : decode cX8_read 193 = .ok (.iload 5, 2) := by decide +kernel
theorem dX8_read_195 : decode cX8_read 195 = .ok (.putfield 287, 3) := by decide +kernel
theorem dX8_read_198 : decode cX8_read 198 = .ok (.iload 6, 2) := by decide +kernel
theorem dX8_read_200 : decode cX8_read 200 = .ok (.ireturn, 1) := by decide +kernel
theorem dX8_torn_0 : decode cX8_torn 0 = .ok (.aload_n 0, 1) := by decide +kernel
theorem dX8_torn_1 : decode cX8_torn 1 = .ok (.getfield 287, 3) := by decide +kernel
theorem dX8_torn_4 : decode cX8_torn 4 = .ok (.ireturn, 1) := by decide +kernel
theorem dX8_count_0 : decode cX8_count 0 = .ok (.iconst 0, 1) := by decide +kernel
theorem dX8_count_1 : decode cX8_count 1 = .ok (.istore_n 2, 1) := by decide +kernel
theorem dX8_count_2 : decode cX8_count 2 = .ok (.iconst 0, 1) := by decide +kernel
theorem dX8_count_3 : decode cX8_count 3 = .ok (.istore_n 3, 1) := by decide +kernel
theorem dX8_count_4 : decode cX8_count 4 = .ok (.iload_n 3, 1) := by decide +kernel
theorem dX8_count_5 : decode cX8_count 5 = .ok (.aload_n 0, 1) := by decide +kernel
theorem dX8_count_6 : decode cX8_count 6 = .ok (.getfield 128, 3) := by decide +kernel
theorem dX8_count_9 : decode cX8_count 9 = .ok (.if_icmp .ge 21, 3) := by decide +kernel
theorem dX8_count_12 : decode cX8_count 12 = .ok (.iload_n 2, 1) := by decide +kernel
theorem dX8_count_13 : decode cX8_count 13 = .ok (.aload_n 0, 1) := by decide +kernel
theorem dX8_count_14 : decode cX8_count 14 = .ok (.getfield 7, 3) := by decide +kernel
theorem dX8_count_17 : decode cX8_count 17 = .ok (.bipush 23, 2) := by decide +kernel
theorem dX8_count_19 : decode cX8_count 19 = .ok (.iload_n 3, 1) := by decide +kernel
theorem dX8_count_20 : decode cX8_count 20 = .ok (.iadd, 1) := by decide +kernel
theorem dX8_count_21 : decode cX8_count 21 = .ok (.iaload, 1) := by decide +kernel
theorem dX8_count_22 : decode cX8_count 22 = .ok (.iadd, 1) := by decide +kernel
theorem dX8_count_23 : decode cX8_count 23 = .ok (.istore_n 2, 1) := by decide +kernel
theorem dX8_count_24 : decode cX8_count 24 = .ok (.iinc 3 1, 3) := by decide +kernel
theorem dX8_count_27 : decode cX8_count 27 = .ok (.goto (-23), 3) := by decide +kernel
theorem dX8_count_30 : decode cX8_count 30 = .ok (.iload_n 1, 1) := by decide +kernel
theorem dX8_count_31 : decode cX8_count 31 = .ok (.tableswitch 113 0 5 #[37, 42, 72, 77, 100, 111], 37) := by decide +kernel
theorem dX8_count_68 : decode cX8_count 68 = .ok (.aload_n 0, 1) := by decide +kernel
theorem dX8_count_69 : decode cX8_count 69 = .ok (.getfield 131, 3) := by decide +kernel
theorem dX8_count_72 : decode cX8_count 72 = .ok (.ireturn, 1) := by decide +kernel
theorem dX8_count_73 : decode cX8_count 73 = .ok (.aload_n 0, 1) := by decide +kernel
theorem dX8_count_74 : decode cX8_count 74 = .ok (.getfield 31, 3) := by decide +kernel
theorem dX8_count_77 : decode cX8_count 77 = .ok (.iconst 0, 1) := by decide +kernel
theorem dX8_count_78 : decode cX8_count 78 = .ok (.baload, 1) := by decide +kernel
theorem dX8_count_79 : decode cX8_count 79 = .ok (.ifCond .eq 7, 3) := by decide +kernel
theorem dX8_count_82 : decode cX8_count 82 = .ok (.iconst 1, 1) := by decide +kernel
theorem dX8_count_83 : decode cX8_count 83 = .ok (.goto 4, 3) := by decide +kernel
theorem dX8_count_86 : decode cX8_count 86 = .ok (.iconst 0, 1) := by decide +kernel
theorem dX8_count_87 : decode cX8_count 87 = .ok (.aload_n 0, 1) := by decide +kernel
theorem dX8_count_88 : decode cX8_count 88 = .ok (.getfield 31, 3) := by decide +kernel
theorem dX8_count_91 : decode cX8_count 91 = .ok (.iconst 1, 1) := by decide +kernel
theorem dX8_count_92 : decode cX8_count 92 = .ok (.baload, 1) := by decide +kernel
theorem dX8_count_93 : decode cX8_count 93 = .ok (.ifCond .eq 7, 3) := by decide +kernel
theorem dX8_count_96 : decode cX8_count 96 = .ok (.iconst 1, 1) := by decide +kernel
theorem dX8_count_97 : decode cX8_count 97 = .ok (.goto 4, 3) := by decide +kernel
theorem dX8_count_100 : decode cX8_count 100 = .ok (.iconst 0, 1) := by decide +kernel
theorem dX8_count_101 : decode cX8_count 101 = .ok (.iadd, 1) := by decide +kernel
theorem dX8_count_102 : decode cX8_count 102 = .ok (.ireturn, 1) := by decide +kernel
theorem dX8_count_103 : decode cX8_count 103 = .ok (.aload_n 0, 1) := by decide +kernel
theorem dX8_count_104 : decode cX8_count 104 = .ok (.getfield 50, 3) := by decide +kernel
theorem dX8_count_107 : decode cX8_count 107 = .ok (.ireturn, 1) := by decide +kernel
theorem dX8_count_108 : decode cX8_count 108 = .ok (.aload_n 0, 1) := by decide +kernel
theorem dX8_count_109 : decode cX8_count 109 = .ok (.getfield 35, 3) := by decide +kernel
theorem dX8_count_112 : decode cX8_count 112 = .ok (.iconst 0, 1) := by decide +kernel
theorem dX8_count_113 : decode cX8_count 113 = .ok (.iaload, 1) := by decide +kernel
theorem dX8_count_114 : decode cX8_count 114 = .ok (.bipush (-4), 2) := by decide +kernel
theorem dX8_count_116 : decode cX8_count 116 = .ok (.if_icmp .ne 8, 3) := by decide +kernel
theorem dX8_count_119 : decode cX8_count 119 = .ok (.bipush (-4), 2) := by decide +kernel
theorem dX8_count_121 : decode cX8_count 121 = .ok (.goto 9, 3) := by decide +kernel
theorem dX8_count_124 : decode cX8_count 124 = .ok (.aload_n 0, 1) := by decide +kernel
theorem dX8_count_125 : decode cX8_count 125 = .ok (.getfield 38, 3) := by decide +kernel
theorem dX8_count_128 : decode cX8_count 128 = .ok (.iconst 0, 1) := by decide +kernel
theorem dX8_count_129 : decode cX8_count 129 = .ok (.iaload, 1) := by decide +kernel
theorem dX8_count_130 : decode cX8_count 130 = .ok (.ireturn, 1) := by decide +kernel
theorem dX8_count_131 : decode cX8_count 131 = .ok (.aload_n 0, 1) := by decide +kernel
theorem dX8_count_132 : decode cX8_count 132 = .ok (.getfield 7, 3) := by decide +kernel
theorem dX8_count_135 : decode cX8_count 135 = .ok (.bipush 18, 2) := by decide +kernel
theorem dX8_count_137 : decode cX8_count 137 = .ok (.iaload, 1) := by decide +kernel
theorem dX8_count_138 : decode cX8_count 138 = .ok (.invokestatic 259, 3) := by decide +kernel
theorem dX8_count_141 : decode cX8_count 141 = .ok (.ireturn, 1) := by decide +kernel
theorem dX8_count_142 : decode cX8_count 142 = .ok (.iload_n 2, 1) := by decide +kernel
theorem dX8_count_143 : decode cX8_count 143 = .ok (.ireturn, 1) := by decide +kernel
theorem dX8_count_144 : decode cX8_count 144 = .ok (.iconst (-1), 1) := by decide +kernel
theorem dX8_count_145 : decode cX8_count 145 = .ok (.ireturn, 1) := by decide +kernel
