/-! decode rows, and every method is right -/
variable {p : Program} {l : Launch} {e : Env} {R : Room} {s : State} {m : MethodId} {args : Array Value} {below : List Frame} {meth : Method} {c : Code} {D : va_G} {cid : Nat → ClassId} {kv : Nat → Option Nat} {N0 : Nat} {xs : Nat → Int32} {Ls n0 z0 nF zE d : Nat} {ρ0 : List Nat} {Qq : zQq} {r0 : Option Value} {hF : zH}
theorem dX8_init_0 : decode cX8_init 0 = .ok (.aload_n 0, 1) := by decide +kernel
theorem dX8_init_1 : decode cX8_init 1 = .ok (.invokespecial 3, 3) := by decide +kernel
theorem dX8_init_4 : decode cX8_init 4 = .ok (.aload_n 0, 1) := by decide +kernel
theorem dX8_init_5 : decode cX8_init 5 = .ok (.invokestatic 9, 3) := by decide +kernel
theorem dX8_init_8 : decode cX8_init 8 = .ok (.putfield 15, 3) := by decide +kernel
theorem dX8_init_11 : decode cX8_init 11 = .ok (.aload_n 0, 1) := by decide +kernel
theorem dX8_init_12 : decode cX8_init 12 = .ok (.bipush 118, 2) := by decide +kernel
theorem dX8_init_14 : decode cX8_init 14 = .ok (.newarray .int, 2) := by decide +kernel
theorem dX8_init_16 : decode cX8_init 16 = .ok (.putfield 19, 3) := by decide +kernel
theorem dX8_init_19 : decode cX8_init 19 = .ok (.aload_n 0, 1) := by decide +kernel
theorem dX8_init_20 : decode cX8_init 20 = .ok (.bipush 118, 2) := by decide +kernel
theorem dX8_init_22 : decode cX8_init 22 = .ok (.newarray .int, 2) := by decide +kernel
theorem dX8_init_24 : decode cX8_init 24 = .ok (.putfield 22, 3) := by decide +kernel
theorem dX8_init_27 : decode cX8_init 27 = .ok (.aload_n 0, 1) := by decide +kernel
theorem dX8_init_28 : decode cX8_init 28 = .ok (.iconst (-1), 1) := by decide +kernel
theorem dX8_init_29 : decode cX8_init 29 = .ok (.putfield 25, 3) := by decide +kernel
theorem dX8_init_32 : decode cX8_init 32 = .ok (.aload_n 0, 1) := by decide +kernel
theorem dX8_init_33 : decode cX8_init 33 = .ok (.bipush 100, 2) := by decide +kernel
theorem dX8_init_35 : decode cX8_init 35 = .ok (.newarray .int, 2) := by decide +kernel
theorem dX8_init_37 : decode cX8_init 37 = .ok (.putfield 29, 3) := by decide +kernel
theorem dX8_init_40 : decode cX8_init 40 = .ok (.aload_n 0, 1) := by decide +kernel
theorem dX8_init_41 : decode cX8_init 41 = .ok (.sipush 600, 3) := by decide +kernel
theorem dX8_init_44 : decode cX8_init 44 = .ok (.newarray .int, 2) := by decide +kernel
theorem dX8_init_46 : decode cX8_init 46 = .ok (.putfield 32, 3) := by decide +kernel
theorem dX8_init_49 : decode cX8_init 49 = .ok (.aload_n 0, 1) := by decide +kernel
theorem dX8_init_50 : decode cX8_init 50 = .ok (.bipush 6, 2) := by decide +kernel
theorem dX8_init_52 : decode cX8_init 52 = .ok (.newarray .int, 2) := by decide +kernel
theorem dX8_init_54 : decode cX8_init 54 = .ok (.putfield 35, 3) := by decide +kernel
theorem dX8_init_57 : decode cX8_init 57 = .ok (.aload_n 0, 1) := by decide +kernel
theorem dX8_init_58 : decode cX8_init 58 = .ok (.bipush 100, 2) := by decide +kernel
theorem dX8_init_60 : decode cX8_init 60 = .ok (.newarray .int, 2) := by decide +kernel
theorem dX8_init_62 : decode cX8_init 62 = .ok (.putfield 38, 3) := by decide +kernel
theorem dX8_init_65 : decode cX8_init 65 = .ok (.aload_n 0, 1) := by decide +kernel
theorem dX8_init_66 : decode cX8_init 66 = .ok (.bipush 6, 2) := by decide +kernel
theorem dX8_init_68 : decode cX8_init 68 = .ok (.newarray .int, 2) := by decide +kernel
theorem dX8_init_70 : decode cX8_init 70 = .ok (.putfield 41, 3) := by decide +kernel
theorem dX8_init_73 : decode cX8_init 73 = .ok (.aload_n 0, 1) := by decide +kernel
theorem dX8_init_74 : decode cX8_init 74 = .ok (.bipush 6, 2) := by decide +kernel
theorem dX8_init_76 : decode cX8_init 76 = .ok (.newarray .char, 2) := by decide +kernel
theorem dX8_init_78 : decode cX8_init 78 = .ok (.dup, 1) := by decide +kernel
theorem dX8_init_79 : decode cX8_init 79 = .ok (.iconst 0, 1) := by decide +kernel
theorem dX8_init_80 : decode cX8_init 80 = .ok (.bipush 112, 2) := by decide +kernel
theorem dX8_init_82 : decode cX8_init 82 = .ok (.castore, 1) := by decide +kernel
theorem dX8_init_83 : decode cX8_init 83 = .ok (.dup, 1) := by decide +kernel
theorem dX8_init_84 : decode cX8_init 84 = .ok (.iconst 1, 1) := by decide +kernel
theorem dX8_init_85 : decode cX8_init 85 = .ok (.bipush 107, 2) := by decide +kernel
theorem dX8_init_87 : decode cX8_init 87 = .ok (.castore, 1) := by decide +kernel
theorem dX8_init_88 : decode cX8_init 88 = .ok (.dup, 1) := by decide +kernel
theorem dX8_init_89 : decode cX8_init 89 = .ok (.iconst 2, 1) := by decide +kernel
theorem dX8_init_90 : decode cX8_init 90 = .ok (.bipush 118, 2) := by decide +kernel
theorem dX8_init_92 : decode cX8_init 92 = .ok (.castore, 1) := by decide +kernel
theorem dX8_init_93 : decode cX8_init 93 = .ok (.dup, 1) := by decide +kernel
theorem dX8_init_94 : decode cX8_init 94 = .ok (.iconst 3, 1) := by decide +kernel
theorem dX8_init_95 : decode cX8_init 95 = .ok (.bipush 119, 2) := by decide +kernel
theorem dX8_init_97 : decode cX8_init 97 = .ok (.castore, 1) := by decide +kernel
theorem dX8_init_98 : decode cX8_init 98 = .ok (.dup, 1) := by decide +kernel
theorem dX8_init_99 : decode cX8_init 99 = .ok (.iconst 4, 1) := by decide +kernel
theorem dX8_init_100 : decode cX8_init 100 = .ok (.bipush 116, 2) := by decide +kernel
theorem dX8_init_102 : decode cX8_init 102 = .ok (.castore, 1) := by decide +kernel
theorem dX8_init_103 : decode cX8_init 103 = .ok (.dup, 1) := by decide +kernel
theorem dX8_init_104 : decode cX8_init 104 = .ok (.iconst 5, 1) := by decide +kernel
theorem dX8_init_105 : decode cX8_init 105 = .ok (.bipush 100, 2) := by decide +kernel
theorem dX8_init_107 : decode cX8_init 107 = .ok (.castore, 1) := by decide +kernel
theorem dX8_init_108 : decode cX8_init 108 = .ok (.putfield 44, 3) := by decide +kernel
theorem dX8_init_111 : decode cX8_init 111 = .ok (.aload_n 0, 1) := by decide +kernel
theorem dX8_init_112 : decode cX8_init 112 = .ok (.iconst 3, 1) := by decide +kernel
theorem dX8_init_113 : decode cX8_init 113 = .ok (.newarray .char, 2) := by decide +kernel
theorem dX8_init_115 : decode cX8_init 115 = .ok (.dup, 1) := by decide +kernel
theorem dX8_init_116 : decode cX8_init 116 = .ok (.iconst 0, 1) := by decide +kernel
theorem dX8_init_117 : decode cX8_init 117 = .ok (.bipush 109, 2) := by decide +kernel
theorem dX8_init_119 : decode cX8_init 119 = .ok (.castore, 1) := by decide +kernel
theorem dX8_init_120 : decode cX8_init 120 = .ok (.dup, 1) := by decide +kernel
theorem dX8_init_121 : decode cX8_init 121 = .ok (.iconst 1, 1) := by decide +kernel
theorem dX8_init_122 : decode cX8_init 122 = .ok (.bipush 108, 2) := by decide +kernel
theorem dX8_init_124 : decode cX8_init 124 = .ok (.castore, 1) := by decide +kernel
theorem dX8_init_125 : decode cX8_init 125 = .ok (.dup, 1) := by decide +kernel
theorem dX8_init_126 : decode cX8_init 126 = .ok (.iconst 2, 1) := by decide +kernel
theorem dX8_init_127 : decode cX8_init 127 = .ok (.bipush 112, 2) := by decide +kernel
theorem dX8_init_129 : decode cX8_init 129 = .ok (.castore, 1) := by decide +kernel
theorem dX8_init_130 : decode cX8_init 130 = .ok (.putfield 48, 3) := by decide +kernel
theorem dX8_init_133 : decode cX8_init 133 = .ok (.aload_n 0, 1) := by decide +kernel
theorem dX8_init_134 : decode cX8_init 134 = .ok (.bipush 15, 2) := by decide +kernel
theorem dX8_init_136 : decode cX8_init 136 = .ok (.newarray .char, 2) := by decide +kernel
theorem dX8_init_138 : decode cX8_init 138 = .ok (.dup, 1) := by decide +kernel
theorem dX8_init_139 : decode cX8_init 139 = .ok (.iconst 0, 1) := by decide +kernel
theorem dX8_init_140 : decode cX8_init 140 = .ok (.bipush 109, 2) := by decide +kernel
theorem dX8_init_142 : decode cX8_init 142 = .ok (.castore, 1) := by decide +kernel
theorem dX8_init_143 : decode cX8_init 143 = .ok (.dup, 1) := by decide +kernel
theorem dX8_init_144 : decode cX8_init 144 = .ok (.iconst 1, 1) := by decide +kernel
theorem dX8_init_145 : decode cX8_init 145 = .ok (.bipush 111, 2) := by decide +kernel
theorem dX8_init_147 : decode cX8_init 147 = .ok (.castore, 1) := by decide +kernel
theorem dX8_init_148 : decode cX8_init 148 = .ok (.dup, 1) := by decide +kernel
theorem dX8_init_149 : decode cX8_init 149 = .ok (.iconst 2, 1) := by decide +kernel
theorem dX8_init_150 : decode cX8_init 150 = .ok (.bipush 114, 2) := by decide +kernel
theorem dX8_init_152 : decode cX8_init 152 = .ok (.castore, 1) := by decide +kernel
theorem dX8_init_153 : decode cX8_init 153 = .ok (.dup, 1) := by decide +kernel
theorem dX8_init_154 : decode cX8_init 154 = .ok (.iconst 3, 1) := by decide +kernel
theorem dX8_init_155 : decode cX8_init 155 = .ok (.bipush 101, 2) := by decide +kernel
theorem dX8_init_157 : decode cX8_init 157 = .ok (.castore, 1) := by decide +kernel
theorem dX8_init_158 : decode cX8_init 158 = .ok (.dup, 1) := by decide +kernel
theorem dX8_init_159 : decode cX8_init 159 = .ok (.iconst 4, 1) := by decide +kernel
theorem dX8_init_160 : decode cX8_init 160 = .ok (.iconst 0, 1) := by decide +kernel
theorem dX8_init_161 : decode cX8_init 161 = .ok (.castore, 1) := by decide +kernel
theorem dX8_init_162 : decode cX8_init 162 = .ok (.dup, 1) := by decide +kernel
theorem dX8_init_163 : decode cX8_init 163 = .ok (.iconst 5, 1) := by decide +kernel
theorem dX8_init_164 : decode cX8_init 164 = .ok (.bipush 108, 2) := by decide +kernel
theorem dX8_init_166 : decode cX8_init 166 = .ok (.castore, 1) := by decide +kernel
theorem dX8_init_167 : decode cX8_init 167 = .ok (.dup, 1) := by decide +kernel
theorem dX8_init_168 : decode cX8_init 168 = .ok (.bipush 6, 2) := by decide +kernel
theorem dX8_init_170 : decode cX8_init 170 = .ok (.bipush 101, 2) := by decide +kernel
theorem dX8_init_172 : decode cX8_init 172 = .ok (.castore, 1) := by decide +kernel
theorem dX8_init_173 : decode cX8_init 173 = .ok (.dup, 1) := by decide +kernel
theorem dX8_init_174 : decode cX8_init 174 = .ok (.bipush 7, 2) := by decide +kernel
theorem dX8_init_176 : decode cX8_init 176 = .ok (.bipush 115, 2) := by decide +kernel
theorem dX8_init_178 : decode cX8_init 178 = .ok (.castore, 1) := by decide +kernel
theorem dX8_init_179 : decode cX8_init 179 = .ok (.dup, 1) := by decide +kernel
theorem dX8_init_180 : decode cX8_init 180 = .ok (.bipush 8, 2) := by decide +kernel
theorem dX8_init_182 : decode cX8_init 182 = .ok (.bipush 115, 2) := by decide +kernel
theorem dX8_init_184 : decode cX8_init 184 = .ok (.castore, 1) := by decide +kernel
theorem dX8_init_185 : decode cX8_init 185 = .ok (.dup, 1) := by decide +kernel
theorem dX8_init_186 : decode cX8_init 186 = .ok (.bipush 9, 2) := by decide +kernel
theorem dX8_init_188 : decode cX8_init 188 = .ok (.iconst 0, 1) := by decide +kernel
theorem dX8_init_189 : decode cX8_init 189 = .ok (.castore, 1) := by decide +kernel
theorem dX8_init_190 : decode cX8_init 190 = .ok (.dup, 1) := by decide +kernel
theorem dX8_init_191 : decode cX8_init 191 = .ok (.bipush 10, 2) := by decide +kernel
theorem dX8_init_193 : decode cX8_init 193 = .ok (.bipush 112, 2) := by decide +kernel
theorem dX8_init_195 : decode cX8_init 195 = .ok (.castore, 1) := by decide +kernel
theorem dX8_init_196 : decode cX8_init 196 = .ok (.dup, 1) := by decide +kernel
theorem dX8_init_197 : decode cX8_init 197 = .ok (.bipush 11, 2) := by decide +kernel
theorem dX8_init_199 : decode cX8_init 199 = .ok (.bipush 97, 2) := by decide +kernel
theorem dX8_init_201 : decode cX8_init 201 = .ok (.castore, 1) := by decide +kernel
theorem dX8_init_202 : decode cX8_init 202 = .ok (.dup, 1) := by decide +kernel
theorem dX8_init_203 : decode cX8_init 203 = .ok (.bipush 12, 2) := by decide +kernel
theorem dX8_init_205 : decode cX8_init 205 = .ok (.bipush 121, 2) := by decide +kernel
theorem dX8_init_207 : decode cX8_init 207 = .ok (.castore, 1) := by decide +kernel
theorem dX8_init_208 : decode cX8_init 208 = .ok (.dup, 1) := by decide +kernel
theorem dX8_init_209 : decode cX8_init 209 = .ok (.bipush 13, 2) := by decide +kernel
theorem dX8_init_211 : decode cX8_init 211 = .ok (.iconst 0, 1) := by decide +kernel
theorem dX8_init_212 : decode cX8_init 212 = .ok (.castore, 1) := by decide +kernel
theorem dX8_init_213 : decode cX8_init 213 = .ok (.dup, 1) := by decide +kernel
theorem dX8_init_214 : decode cX8_init 214 = .ok (.bipush 14, 2) := by decide +kernel
theorem dX8_init_216 : decode cX8_init 216 = .ok (.iconst 0, 1) := by decide +kernel
theorem dX8_init_217 : decode cX8_init 217 = .ok (.castore, 1) := by decide +kernel
theorem dX8_init_218 : decode cX8_init 218 = .ok (.putfield 51, 3) := by decide +kernel
theorem dX8_init_221 : decode cX8_init 221 = .ok (.aload_n 0, 1) := by decide +kernel
theorem dX8_init_222 : decode cX8_init 222 = .ok (.bipush 7, 2) := by decide +kernel
theorem dX8_init_224 : decode cX8_init 224 = .ok (.newarray .int, 2) := by decide +kernel
theorem dX8_init_226 : decode cX8_init 226 = .ok (.dup, 1) := by decide +kernel
theorem dX8_init_227 : decode cX8_init 227 = .ok (.iconst 0, 1) := by decide +kernel
theorem dX8_init_228 : decode cX8_init 228 = .ok (.iconst (-1), 1) := by decide +kernel
theorem dX8_init_229 : decode cX8_init 229 = .ok (.iastore, 1) := by decide +kernel
theorem dX8_init_230 : decode cX8_init 230 = .ok (.dup, 1) := by decide +kernel
theorem dX8_init_231 : decode cX8_init 231 = .ok (.iconst 1, 1) := by decide +kernel
theorem dX8_init_232 : decode cX8_init 232 = .ok (.iconst 0, 1) := by decide +kernel
theorem dX8_init_233 : decode cX8_init 233 = .ok (.iastore, 1) := by decide +kernel
theorem dX8_init_234 : decode cX8_init 234 = .ok (.dup, 1) := by decide +kernel
theorem dX8_init_235 : decode cX8_init 235 = .ok (.iconst 2, 1) := by decide +kernel
theorem dX8_init_236 : decode cX8_init 236 = .ok (.iconst 0, 1) := by decide +kernel
theorem dX8_init_237 : decode cX8_init 237 = .ok (.iastore, 1) := by decide +kernel
theorem dX8_init_238 : decode cX8_init 238 = .ok (.dup, 1) := by decide +kernel
theorem dX8_init_239 : decode cX8_init 239 = .ok (.iconst 3, 1) := by decide +kernel
theorem dX8_init_240 : decode cX8_init 240 = .ok (.iconst 0, 1) := by decide +kernel
theorem dX8_init_241 : decode cX8_init 241 = .ok (.iastore, 1) := by decide +kernel
theorem dX8_init_242 : decode cX8_init 242 = .ok (.dup, 1) := by decide +kernel
theorem dX8_init_243 : decode cX8_init 243 = .ok (.iconst 4, 1) := by decide +kernel
theorem dX8_init_244 : decode cX8_init 244 = .ok (.iconst 1, 1) := by decide +kernel
theorem dX8_init_245 : decode cX8_init 245 = .ok (.iastore, 1) := by decide +kernel
theorem dX8_init_246 : decode cX8_init 246 = .ok (.dup, 1) := by decide +kernel
theorem dX8_init_247 : decode cX8_init 247 = .ok (.iconst 5, 1) := by decide +kernel
theorem dX8_init_248 : decode cX8_init 248 = .ok (.iconst 2, 1) := by decide +kernel
theorem dX8_init_249 : decode cX8_init 249 = .ok (.iastore, 1) := by decide +kernel
theorem dX8_init_250 : decode cX8_init 250 = .ok (.dup, 1) := by decide +kernel
theorem dX8_init_251 : decode cX8_init 251 = .ok (.bipush 6, 2) := by decide +kernel
theorem dX8_init_253 : decode cX8_init 253 = .ok (.iconst 3, 1) := by decide +kernel
theorem dX8_init_254 : decode cX8_init 254 = .ok (.iastore, 1) := by decide +kernel
theorem dX8_init_255 : decode cX8_init 255 = .ok (.putfield 54, 3) := by decide +kernel
theorem dX8_init_258 : decode cX8_init 258 = .ok (.aload_n 0, 1) := by decide +kernel
theorem dX8_init_259 : decode cX8_init 259 = .ok (.bipush 21, 2) := by decide +kernel
theorem dX8_init_261 : decode cX8_init 261 = .ok (.newarray .int, 2) := by decide +kernel
theorem dX8_init_263 : decode cX8_init 263 = .ok (.dup, 1) := by decide +kernel
theorem dX8_init_264 : decode cX8_init 264 = .ok (.iconst 0, 1) := by decide +kernel
theorem dX8_init_265 : decode cX8_init 265 = .ok (.bipush 10, 2) := by decide +kernel
theorem dX8_init_267 : decode cX8_init 267 = .ok (.iastore, 1) := by decide +kernel
theorem dX8_init_268 : decode cX8_init 268 = .ok (.dup, 1) := by decide +kernel
theorem dX8_init_269 : decode cX8_init 269 = .ok (.iconst 1, 1) := by decide +kernel
theorem dX8_init_270 : decode cX8_init 270 = .ok (.bipush 11, 2) := by decide +kernel
theorem dX8_init_272 : decode cX8_init 272 = .ok (.iastore, 1) := by decide +kernel
theorem dX8_init_273 : decode cX8_init 273 = .ok (.dup, 1) := by decide +kernel
theorem dX8_init_274 : decode cX8_init 274 = .ok (.iconst 2, 1) := by decide +kernel
theorem dX8_init_275 : decode cX8_init 275 = .ok (.bipush 12, 2) := by decide +kernel
theorem dX8_init_277 : decode cX8_init 277 = .ok (.iastore, 1) := by decide +kernel
theorem dX8_init_278 : decode cX8_init 278 = .ok (.dup, 1) := by decide +kernel
theorem dX8_init_279 : decode cX8_init 279 = .ok (.iconst 3, 1) := by decide +kernel
theorem dX8_init_280 : decode cX8_init 280 = .ok (.iconst 0, 1) := by decide +kernel
theorem dX8_init_281 : decode cX8_init 281 = .ok (.iastore, 1) := by decide +kernel
theorem dX8_init_282 : decode cX8_init 282 = .ok (.dup, 1) := by decide +kernel
theorem dX8_init_283 : decode cX8_init 283 = .ok (.iconst 4, 1) := by decide +kernel
theorem dX8_init_284 : decode cX8_init 284 = .ok (.bipush 20, 2) := by decide +kernel
theorem dX8_init_286 : decode cX8_init 286 = .ok (.iastore, 1) := by decide +kernel
theorem dX8_init_287 : decode cX8_init 287 = .ok (.dup, 1) := by decide +kernel
theorem dX8_init_288 : decode cX8_init 288 = .ok (.iconst 5, 1) := by decide +kernel
theorem dX8_init_289 : decode cX8_init 289 = .ok (.iconst 0, 1) := by decide +kernel
theorem dX8_init_290 : decode cX8_init 290 = .ok (.iastore, 1) := by decide +kernel
theorem dX8_init_291 : decode cX8_init 291 = .ok (.dup, 1) := by decide +kernel
theorem dX8_init_292 : decode cX8_init 292 = .ok (.bipush 6, 2) := by decide +kernel
theorem dX8_init_294 : decode cX8_init 294 = .ok (.bipush 30, 2) := by decide +kernel
theorem dX8_init_296 : decode cX8_init 296 = .ok (.iastore, 1) := by decide +kernel
theorem dX8_init_297 : decode cX8_init 297 = .ok (.dup, 1) := by decide +kernel
theorem dX8_init_298 : decode cX8_init 298 = .ok (.bipush 7, 2) := by decide +kernel
theorem dX8_init_300 : decode cX8_init 300 = .ok (.iconst 0, 1) := by decide +kernel
theorem dX8_init_301 : decode cX8_init 301 = .ok (.iastore, 1) := by decide +kernel
theorem dX8_init_302 : decode cX8_init 302 = .ok (.dup, 1) := by decide +kernel
theorem dX8_init_303 : decode cX8_init 303 = .ok (.bipush 8, 2) := by decide +kernel
theorem dX8_init_305 : decode cX8_init 305 = .ok (.iconst 0, 1) := by decide +kernel
theorem dX8_init_306 : decode cX8_init 306 = .ok (.iastore, 1) := by decide +kernel
theorem dX8_init_307 : decode cX8_init 307 = .ok (.dup, 1) := by decide +kernel
theorem dX8_init_308 : decode cX8_init 308 = .ok (.bipush 9, 2) := by decide +kernel
theorem dX8_init_310 : decode cX8_init 310 = .ok (.iconst 0, 1) := by decide +kernel
theorem dX8_init_311 : decode cX8_init 311 = .ok (.iastore, 1) := by decide +kernel
theorem dX8_init_312 : decode cX8_init 312 = .ok (.dup, 1) := by decide +kernel
theorem dX8_init_313 : decode cX8_init 313 = .ok (.bipush 10, 2) := by decide +kernel
theorem dX8_init_315 : decode cX8_init 315 = .ok (.iconst 0, 1) := by decide +kernel
theorem dX8_init_316 : decode cX8_init 316 = .ok (.iastore, 1) := by decide +kernel
theorem dX8_init_317 : decode cX8_init 317 = .ok (.dup, 1) := by decide +kernel
theorem dX8_init_318 : decode cX8_init 318 = .ok (.bipush 11, 2) := by decide +kernel
theorem dX8_init_320 : decode cX8_init 320 = .ok (.bipush 40, 2) := by decide +kernel
theorem dX8_init_322 : decode cX8_init 322 = .ok (.iastore, 1) := by decide +kernel
theorem dX8_init_323 : decode cX8_init 323 = .ok (.dup, 1) := by decide +kernel
theorem dX8_init_324 : decode cX8_init 324 = .ok (.bipush 12, 2) := by decide +kernel
theorem dX8_init_326 : decode cX8_init 326 = .ok (.bipush 50, 2) := by decide +kernel
theorem dX8_init_328 : decode cX8_init 328 = .ok (.iastore, 1) := by decide +kernel
theorem dX8_init_329 : decode cX8_init 329 = .ok (.dup, 1) := by decide +kernel
theorem dX8_init_330 : decode cX8_init 330 = .ok (.bipush 13, 2) := by decide +kernel
theorem dX8_init_332 : decode cX8_init 332 = .ok (.bipush 51, 2) := by decide +kernel
theorem dX8_init_334 : decode cX8_init 334 = .ok (.iastore, 1) := by decide +kernel
theorem dX8_init_335 : decode cX8_init 335 = .ok (.dup, 1) := by decide +kernel
theorem dX8_init_336 : decode cX8_init 336 = .ok (.bipush 14, 2) := by decide +kernel
theorem dX8_init_338 : decode cX8_init 338 = .ok (.iconst 0, 1) := by decide +kernel
theorem dX8_init_339 : decode cX8_init 339 = .ok (.iastore, 1) := by decide +kernel
theorem dX8_init_340 : decode cX8_init 340 = .ok (.dup, 1) := by decide +kernel
theorem dX8_init_341 : decode cX8_init 341 = .ok (.bipush 15, 2) := by decide +kernel
theorem dX8_init_343 : decode cX8_init 343 = .ok (.iconst 0, 1) := by decide +kernel
theorem dX8_init_344 : decode cX8_init 344 = .ok (.iastore, 1) := by decide +kernel
theorem dX8_init_345 : decode cX8_init 345 = .ok (.dup, 1) := by decide +kernel
theorem dX8_init_346 : decode cX8_init 346 = .ok (.bipush 16, 2) := by decide +kernel
theorem dX8_init_348 : decode cX8_init 348 = .ok (.iconst 0, 1) := by decide +kernel
theorem dX8_init_349 : decode cX8_init 349 = .ok (.iastore, 1) := by decide +kernel
theorem dX8_init_350 : decode cX8_init 350 = .ok (.dup, 1) := by decide +kernel
theorem dX8_init_351 : decode cX8_init 351 = .ok (.bipush 17, 2) := by decide +kernel
theorem dX8_init_353 : decode cX8_init 353 = .ok (.bipush 60, 2) := by decide +kernel
theorem dX8_init_355 : decode cX8_init 355 = .ok (.iastore, 1) := by decide +kernel
theorem dX8_init_356 : decode cX8_init 356 = .ok (.dup, 1) := by decide +kernel
theorem dX8_init_357 : decode cX8_init 357 = .ok (.bipush 18, 2) := by decide +kernel
theorem dX8_init_359 : decode cX8_init 359 = .ok (.bipush 71, 2) := by decide +kernel
theorem dX8_init_361 : decode cX8_init 361 = .ok (.iastore, 1) := by decide +kernel
theorem dX8_init_362 : decode cX8_init 362 = .ok (.dup, 1) := by decide +kernel
theorem dX8_init_363 : decode cX8_init 363 = .ok (.bipush 19, 2) := by decide +kernel
theorem dX8_init_365 : decode cX8_init 365 = .ok (.bipush 70, 2) := by decide +kernel
theorem dX8_init_367 : decode cX8_init 367 = .ok (.iastore, 1) := by decide +kernel
theorem dX8_init_368 : decode cX8_init 368 = .ok (.dup, 1) := by decide +kernel
theorem dX8_init_369 : decode cX8_init 369 = .ok (.bipush 20, 2) := by decide +kernel
theorem dX8_init_371 : decode cX8_init 371 = .ok (.iconst 0, 1) := by decide +kernel
theorem dX8_init_372 : decode cX8_init 372 = .ok (.iastore, 1) := by decide +kernel
theorem dX8_init_373 : decode cX8_init 373 = .ok (.putfield 57, 3) := by decide +kernel
theorem dX8_init_376 : decode cX8_init 376 = .ok (.aload_n 0, 1) := by decide +kernel
theorem dX8_init_377 : decode cX8_init 377 = .ok (.bipush 20, 2) := by decide +kernel
theorem dX8_init_379 : decode cX8_init 379 = .ok (.newarray .int, 2) := by decide +kernel
theorem dX8_init_381 : decode cX8_init 381 = .ok (.putfield 60, 3) := by decide +kernel
theorem dX8_init_384 : decode cX8_init 384 = .ok (.aload_n 0, 1) := by decide +kernel
theorem dX8_init_385 : decode cX8_init 385 = .ok (.bipush 6, 2) := by decide +kernel
theorem dX8_init_387 : decode cX8_init 387 = .ok (.newarray .int, 2) := by decide +kernel
theorem dX8_init_389 : decode cX8_init 389 = .ok (.dup, 1) := by decide +kernel
theorem dX8_init_390 : decode cX8_init 390 = .ok (.iconst 0, 1) := by decide +kernel
theorem dX8_init_391 : decode cX8_init 391 = .ok (.iconst (-1), 1) := by decide +kernel
theorem dX8_init_392 : decode cX8_init 392 = .ok (.iastore, 1) := by decide +kernel
theorem dX8_init_393 : decode cX8_init 393 = .ok (.dup, 1) := by decide +kernel
theorem dX8_init_394 : decode cX8_init 394 = .ok (.iconst 1, 1) := by decide +kernel
theorem dX8_init_395 : decode cX8_init 395 = .ok (.iconst (-1), 1) := by decide +kernel
theorem dX8_init_396 : decode cX8_init 396 = .ok (.iastore, 1) := by decide +kernel
theorem dX8_init_397 : decode cX8_init 397 = .ok (.dup, 1) := by decide +kernel
theorem dX8_init_398 : decode cX8_init 398 = .ok (.iconst 2, 1) := by decide +kernel
theorem dX8_init_399 : decode cX8_init 399 = .ok (.iconst (-1), 1) := by decide +kernel
theorem dX8_init_400 : decode cX8_init 400 = .ok (.iastore, 1) := by decide +kernel
theorem dX8_init_401 : decode cX8_init 401 = .ok (.dup, 1) := by decide +kernel
theorem dX8_init_402 : decode cX8_init 402 = .ok (.iconst 3, 1) := by decide +kernel
theorem dX8_init_403 : decode cX8_init 403 = .ok (.iconst (-1), 1) := by decide +kernel
theorem dX8_init_404 : decode cX8_init 404 = .ok (.iastore, 1) := by decide +kernel
theorem dX8_init_405 : decode cX8_init 405 = .ok (.dup, 1) := by decide +kernel
theorem dX8_init_406 : decode cX8_init 406 = .ok (.iconst 4, 1) := by decide +kernel
theorem dX8_init_407 : decode cX8_init 407 = .ok (.iconst (-1), 1) := by decide +kernel
theorem dX8_init_408 : decode cX8_init 408 = .ok (.iastore, 1) := by decide +kernel
theorem dX8_init_409 : decode cX8_init 409 = .ok (.dup, 1) := by decide +kernel
theorem dX8_init_410 : decode cX8_init 410 = .ok (.iconst 5, 1) := by decide +kernel
theorem dX8_init_411 : decode cX8_init 411 = .ok (.iconst (-1), 1) := by decide +kernel
theorem dX8_init_412 : decode cX8_init 412 = .ok (.iastore, 1) := by decide +kernel
theorem dX8_init_413 : decode cX8_init 413 = .ok (.putfield 63, 3) := by decide +kernel
theorem dX8_init_416 : decode cX8_init 416 = .ok (.aload_n 0, 1) := by decide +kernel
theorem dX8_init_417 : decode cX8_init 417 = .ok (.bipush 6, 2) := by decide +kernel
theorem dX8_init_419 : decode cX8_init 419 = .ok (.newarray .int, 2) := by decide +kernel
theorem dX8_init_421 : decode cX8_init 421 = .ok (.putfield 66, 3) := by decide +kernel
theorem dX8_init_424 : decode cX8_init 424 = .ok (.aload_n 0, 1) := by decide +kernel
theorem dX8_init_425 : decode cX8_init 425 = .ok (.sipush 360, 3) := by decide +kernel
theorem dX8_init_428 : decode cX8_init 428 = .ok (.newarray .long, 2) := by decide +kernel
theorem dX8_init_430 : decode cX8_init 430 = .ok (.putfield 69, 3) := by decide +kernel
theorem dX8_init_433 : decode cX8_init 433 = .ok (.aload_n 0, 1) := by decide +kernel
theorem dX8_init_434 : decode cX8_init 434 = .ok (.bipush 60, 2) := by decide +kernel
theorem dX8_init_436 : decode cX8_init 436 = .ok (.newarray .long, 2) := by decide +kernel
theorem dX8_init_438 : decode cX8_init 438 = .ok (.putfield 73, 3) := by decide +kernel
theorem dX8_init_441 : decode cX8_init 441 = .ok (.return_, 1) := by decide +kernel
theorem sd801_0 (F : zFx p l R s m args meth c D cid kv N0 xs Ls RX8 cX8_init 1 n0 z0 nF zE d) (IH : zAllM l D cid kv N0 xs Ls d) (hQ : ∀ v h, Qq v h → v = r0 ∧ h = hF) (hn : nF = zN hF) (hz : zE = zZ hF) (hlocks : meth.locks = false) (hr : meth.sig.returnType = none) (hin : meth.name = "<init>") : zSoL p l e R s m args below meth c D cid kv N0 xs Ls 1 (MQ below (zQc D cid kv N0 xs Ls ρ0 r0 hF) args s (nF - n0) (zE - z0) (zA N0)) ρ0 n0 z0 nF zE Qq (zCall d) zt801_0 := zc_so (si_aload_n F dX8_init_0 rfl)
  (zc_so (si_oinit F tb_700 tb_23 tb_24 dX8_init_1)
  (zc_so (si_aload_n F dX8_init_4 rfl)
  (zc_so (si_cS  F (IH 803 mm803) mp803 (by decide) tb_701 mi803 mn803 mc803 dX8_init_5)
  (zc_so (si_putRF (k := 0) F rfl inT8 (by decide) (by decide) rfl rfl rfl (fun o => by cases o <;> exact ⟨rfl, rfl⟩) rfl hin rfl tyX8_ok nmX8 tb_704 dX8_init_8)
  (zc_so (si_aload_n F dX8_init_11 rfl)
  (zc_so (si_bipush F dX8_init_12 rfl)
  (zc_so (so_naI (ty := .int) (atype := .int) F.1 F.2.1 (by decide) (by decide) rfl rfl (fun C h => by cases h) (by decide) rfl (F.1.2.2.2.2 _ tb_82) F.2.2.2.2.1 F.2.2.1 F.2.2.2.1 dX8_init_14)
  (zc_so (si_putRF (k := 1) F rfl inT8 (by decide) (by decide) rfl rfl rfl (fun o => by cases o <;> exact ⟨rfl, rfl⟩) rfl hin rfl tyX8_ok nmX8 tb_705 dX8_init_16)
  (zc_so (si_aload_n F dX8_init_19 rfl)
  (zc_so (si_bipush F dX8_init_20 rfl)
  (zc_so (so_naI (ty := .int) (atype := .int) F.1 F.2.1 (by decide) (by decide) rfl rfl (fun C h => by cases h) (by decide) rfl (F.1.2.2.2.2 _ tb_82) F.2.2.2.2.1 F.2.2.1 F.2.2.2.1 dX8_init_22)
  (zc_so (si_putRF (k := 2) F rfl inT8 (by decide) (by decide) rfl rfl rfl (fun o => by cases o <;> exact ⟨rfl, rfl⟩) rfl hin rfl tyX8_ok nmX8 tb_706 dX8_init_24)
  (zc_so (si_aload_n F dX8_init_27 rfl)
  (zc_so (si_iconst F dX8_init_28 rfl)
  (zc_so (si_putI (k := 4) F rfl inT8 (by decide) (by decide) rfl rfl rfl rfl tyX8_ok nmX8 tb_708 dX8_init_29)
  (zc_so (si_aload_n F dX8_init_32 rfl)
  (zc_so (si_bipush F dX8_init_33 rfl)
  (zc_so (so_naI (ty := .int) (atype := .int) F.1 F.2.1 (by decide) (by decide) rfl rfl (fun C h => by cases h) (by decide) rfl (F.1.2.2.2.2 _ tb_82) F.2.2.2.2.1 F.2.2.1 F.2.2.2.1 dX8_init_35)
  (zc_so (si_putRF (k := 5) F rfl inT8 (by decide) (by decide) rfl rfl rfl (fun o => by cases o <;> exact ⟨rfl, rfl⟩) rfl hin rfl tyX8_ok nmX8 tb_709 dX8_init_37)
  (zc_so (si_aload_n F dX8_init_40 rfl)
  (zc_so (si_sipush F dX8_init_41 rfl)
  (zc_so (so_naI (ty := .int) (atype := .int) F.1 F.2.1 (by decide) (by decide) rfl rfl (fun C h => by cases h) (by decide) rfl (F.1.2.2.2.2 _ tb_82) F.2.2.2.2.1 F.2.2.1 F.2.2.2.1 dX8_init_44)
  (zc_so (si_putRF (k := 7) F rfl inT8 (by decide) (by decide) rfl rfl rfl (fun o => by cases o <;> exact ⟨rfl, rfl⟩) rfl hin rfl tyX8_ok nmX8 tb_711 dX8_init_46)
  (zc_so (si_aload_n F dX8_init_49 rfl)
  (zc_so (si_bipush F dX8_init_50 rfl)
  (zc_so (so_naI (ty := .int) (atype := .int) F.1 F.2.1 (by decide) (by decide) rfl rfl (fun C h => by cases h) (by decide) rfl (F.1.2.2.2.2 _ tb_82) F.2.2.2.2.1 F.2.2.1 F.2.2.2.1 dX8_init_52)
  (zc_so (si_putRF (k := 8) F rfl inT8 (by decide) (by decide) rfl rfl rfl (fun o => by cases o <;> exact ⟨rfl, rfl⟩) rfl hin rfl tyX8_ok nmX8 tb_712 dX8_init_54)
  (zc_so (si_aload_n F dX8_init_57 rfl)
  (zc_so (si_bipush F dX8_init_58 rfl)
  (zc_so (so_naI (ty := .int) (atype := .int) F.1 F.2.1 (by decide) (by decide) rfl rfl (fun C h => by cases h) (by decide) rfl (F.1.2.2.2.2 _ tb_82) F.2.2.2.2.1 F.2.2.1 F.2.2.2.1 dX8_init_60)
  (zc_so (si_putRF (k := 10) F rfl inT8 (by decide) (by decide) rfl rfl rfl (fun o => by cases o <;> exact ⟨rfl, rfl⟩) rfl hin rfl tyX8_ok nmX8 tb_714 dX8_init_62)
  (zc_nil))))))))))))))))))))))))))))))))
theorem sd801_1 (F : zFx p l R s m args meth c D cid kv N0 xs Ls RX8 cX8_init 1 n0 z0 nF zE d) (IH : zAllM l D cid kv N0 xs Ls d) (hQ : ∀ v h, Qq v h → v = r0 ∧ h = hF) (hn : nF = zN hF) (hz : zE = zZ hF) (hlocks : meth.locks = false) (hr : meth.sig.returnType = none) (hin : meth.name = "<init>") : zSoL p l e R s m args below meth c D cid kv N0 xs Ls 1 (MQ below (zQc D cid kv N0 xs Ls ρ0 r0 hF) args s (nF - n0) (zE - z0) (zA N0)) ρ0 n0 z0 nF zE Qq (zCall d) zt801_1 := zc_so (si_aload_n F dX8_init_65 rfl)
  (zc_so (si_bipush F dX8_init_66 rfl)
  (zc_so (so_naI (ty := .int) (atype := .int) F.1 F.2.1 (by decide) (by decide) rfl rfl (fun C h => by cases h) (by decide) rfl (F.1.2.2.2.2 _ tb_82) F.2.2.2.2.1 F.2.2.1 F.2.2.2.1 dX8_init_68)
  (zc_so (si_putRF (k := 17) F rfl inT8 (by decide) (by decide) rfl rfl rfl (fun o => by cases o <;> exact ⟨rfl, rfl⟩) rfl hin rfl tyX8_ok nmX8 tb_721 dX8_init_70)
  (zc_so (si_aload_n F dX8_init_73 rfl)
  (zc_so (si_bipush F dX8_init_74 rfl)
  (zc_so (so_naI (ty := .char) (atype := .char) F.1 F.2.1 (by decide) (by decide) rfl rfl (fun C h => by cases h) (by decide) rfl (F.1.2.2.2.2 _ tb_792) F.2.2.2.2.1 F.2.2.1 F.2.2.2.1 dX8_init_76)
  (zc_so (si_dup F dX8_init_78)
  (zc_so (si_iconst F dX8_init_79 rfl)
  (zc_so (si_bipush F dX8_init_80 rfl)
  (zc_so (si_castore F dX8_init_82)
  (zc_so (si_dup F dX8_init_83)
  (zc_so (si_iconst F dX8_init_84 rfl)
  (zc_so (si_bipush F dX8_init_85 rfl)
  (zc_so (si_castore F dX8_init_87)
  (zc_so (si_dup F dX8_init_88)
  (zc_so (si_iconst F dX8_init_89 rfl)
  (zc_so (si_bipush F dX8_init_90 rfl)
  (zc_so (si_castore F dX8_init_92)
  (zc_so (si_dup F dX8_init_93)
  (zc_so (si_iconst F dX8_init_94 rfl)
  (zc_so (si_bipush F dX8_init_95 rfl)
  (zc_so (si_castore F dX8_init_97)
  (zc_so (si_dup F dX8_init_98)
  (zc_so (si_iconst F dX8_init_99 rfl)
  (zc_so (si_bipush F dX8_init_100 rfl)
  (zc_so (si_castore F dX8_init_102)
  (zc_so (si_dup F dX8_init_103)
  (zc_so (si_iconst F dX8_init_104 rfl)
  (zc_so (si_bipush F dX8_init_105 rfl)
  (zc_so (si_castore F dX8_init_107)
  (zc_so (si_putRF (k := 18) F rfl inT8 (by decide) (by decide) rfl rfl rfl (fun o => by cases o <;> exact ⟨rfl, rfl⟩) rfl hin rfl tyX8_ok nmX8 tb_722 dX8_init_108)
  (zc_so (si_aload_n F dX8_init_111 rfl)
  (zc_so (si_iconst F dX8_init_112 rfl)
  (zc_so (so_naI (ty := .char) (atype := .char) F.1 F.2.1 (by decide) (by decide) rfl rfl (fun C h => by cases h) (by decide) rfl (F.1.2.2.2.2 _ tb_792) F.2.2.2.2.1 F.2.2.1 F.2.2.2.1 dX8_init_113)
  (zc_so (si_dup F dX8_init_115)
  (zc_so (si_iconst F dX8_init_116 rfl)
  (zc_so (si_bipush F dX8_init_117 rfl)
  (zc_so (si_castore F dX8_init_119)
  (zc_so (si_dup F dX8_init_120)
  (zc_so (si_iconst F dX8_init_121 rfl)
  (zc_so (si_bipush F dX8_init_122 rfl)
  (zc_so (si_castore F dX8_init_124)
  (zc_so (si_dup F dX8_init_125)
  (zc_so (si_iconst F dX8_init_126 rfl)
  (zc_so (si_bipush F dX8_init_127 rfl)
  (zc_nil))))))))))))))))))))))))))))))))))))))))))))))
theorem sd801_2 (F : zFx p l R s m args meth c D cid kv N0 xs Ls RX8 cX8_init 1 n0 z0 nF zE d) (IH : zAllM l D cid kv N0 xs Ls d) (hQ : ∀ v h, Qq v h → v = r0 ∧ h = hF) (hn : nF = zN hF) (hz : zE = zZ hF) (hlocks : meth.locks = false) (hr : meth.sig.returnType = none) (hin : meth.name = "<init>") : zSoL p l e R s m args below meth c D cid kv N0 xs Ls 1 (MQ below (zQc D cid kv N0 xs Ls ρ0 r0 hF) args s (nF - n0) (zE - z0) (zA N0)) ρ0 n0 z0 nF zE Qq (zCall d) zt801_2 := zc_so (si_castore F dX8_init_129)
  (zc_so (si_putRF (k := 19) F rfl inT8 (by decide) (by decide) rfl rfl rfl (fun o => by cases o <;> exact ⟨rfl, rfl⟩) rfl hin rfl tyX8_ok nmX8 tb_723 dX8_init_130)
  (zc_so (si_aload_n F dX8_init_133 rfl)
  (zc_so (si_bipush F dX8_init_134 rfl)
  (zc_so (so_naI (ty := .char) (atype := .char) F.1 F.2.1 (by decide) (by decide) rfl rfl (fun C h => by cases h) (by decide) rfl (F.1.2.2.2.2 _ tb_792) F.2.2.2.2.1 F.2.2.1 F.2.2.2.1 dX8_init_136)
  (zc_so (si_dup F dX8_init_138)
  (zc_so (si_iconst F dX8_init_139 rfl)
  (zc_so (si_bipush F dX8_init_140 rfl)
  (zc_so (si_castore F dX8_init_142)
  (zc_so (si_dup F dX8_init_143)
  (zc_so (si_iconst F dX8_init_144 rfl)
  (zc_so (si_bipush F dX8_init_145 rfl)
  (zc_so (si_castore F dX8_init_147)
  (zc_so (si_dup F dX8_init_148)
  (zc_so (si_iconst F dX8_init_149 rfl)
  (zc_so (si_bipush F dX8_init_150 rfl)
  (zc_so (si_castore F dX8_init_152)
  (zc_so (si_dup F dX8_init_153)
  (zc_so (si_iconst F dX8_init_154 rfl)
  (zc_so (si_bipush F dX8_init_155 rfl)
  (zc_so (si_castore F dX8_init_157)
  (zc_so (si_dup F dX8_init_158)
  (zc_so (si_iconst F dX8_init_159 rfl)
  (zc_so (si_iconst F dX8_init_160 rfl)
  (zc_so (si_castore F dX8_init_161)
  (zc_so (si_dup F dX8_init_162)
  (zc_so (si_iconst F dX8_init_163 rfl)
  (zc_so (si_bipush F dX8_init_164 rfl)
  (zc_so (si_castore F dX8_init_166)
  (zc_so (si_dup F dX8_init_167)
  (zc_so (si_bipush F dX8_init_168 rfl)
  (zc_so (si_bipush F dX8_init_170 rfl)
  (zc_so (si_castore F dX8_init_172)
  (zc_so (si_dup F dX8_init_173)
  (zc_so (si_bipush F dX8_init_174 rfl)
  (zc_so (si_bipush F dX8_init_176 rfl)
  (zc_so (si_castore F dX8_init_178)
  (zc_so (si_dup F dX8_init_179)
  (zc_so (si_bipush F dX8_init_180 rfl)
  (zc_so (si_bipush F dX8_init_182 rfl)
  (zc_so (si_castore F dX8_init_184)
  (zc_so (si_dup F dX8_init_185)
  (zc_so (si_bipush F dX8_init_186 rfl)
  (zc_so (si_iconst F dX8_init_188 rfl)
  (zc_so (si_castore F dX8_init_189)
  (zc_so (si_dup F dX8_init_190)
  (zc_so (si_bipush F dX8_init_191 rfl)
  (zc_nil)))))))))))))))))))))))))))))))))))))))))))))))
theorem sd801_3 (F : zFx p l R s m args meth c D cid kv N0 xs Ls RX8 cX8_init 1 n0 z0 nF zE d) (IH : zAllM l D cid kv N0 xs Ls d) (hQ : ∀ v h, Qq v h → v = r0 ∧ h = hF) (hn : nF = zN hF) (hz : zE = zZ hF) (hlocks : meth.locks = false) (hr : meth.sig.returnType = none) (hin : meth.name = "<init>") : zSoL p l e R s m args below meth c D cid kv N0 xs Ls 1 (MQ below (zQc D cid kv N0 xs Ls ρ0 r0 hF) args s (nF - n0) (zE - z0) (zA N0)) ρ0 n0 z0 nF zE Qq (zCall d) zt801_3 := zc_so (si_bipush F dX8_init_193 rfl)
  (zc_so (si_castore F dX8_init_195)
  (zc_so (si_dup F dX8_init_196)
  (zc_so (si_bipush F dX8_init_197 rfl)
  (zc_so (si_bipush F dX8_init_199 rfl)
  (zc_so (si_castore F dX8_init_201)
  (zc_so (si_dup F dX8_init_202)
  (zc_so (si_bipush F dX8_init_203 rfl)
  (zc_so (si_bipush F dX8_init_205 rfl)
  (zc_so (si_castore F dX8_init_207)
  (zc_so (si_dup F dX8_init_208)
  (zc_so (si_bipush F dX8_init_209 rfl)
  (zc_so (si_iconst F dX8_init_211 rfl)
  (zc_so (si_castore F dX8_init_212)
  (zc_so (si_dup F dX8_init_213)
  (zc_so (si_bipush F dX8_init_214 rfl)
  (zc_so (si_iconst F dX8_init_216 rfl)
  (zc_so (si_castore F dX8_init_217)
  (zc_so (si_putRF (k := 20) F rfl inT8 (by decide) (by decide) rfl rfl rfl (fun o => by cases o <;> exact ⟨rfl, rfl⟩) rfl hin rfl tyX8_ok nmX8 tb_724 dX8_init_218)
  (zc_so (si_aload_n F dX8_init_221 rfl)
  (zc_so (si_bipush F dX8_init_222 rfl)
  (zc_so (so_naI (ty := .int) (atype := .int) F.1 F.2.1 (by decide) (by decide) rfl rfl (fun C h => by cases h) (by decide) rfl (F.1.2.2.2.2 _ tb_82) F.2.2.2.2.1 F.2.2.1 F.2.2.2.1 dX8_init_224)
  (zc_so (si_dup F dX8_init_226)
  (zc_so (si_iconst F dX8_init_227 rfl)
  (zc_so (si_iconst F dX8_init_228 rfl)
  (zc_so (si_iastore F dX8_init_229)
  (zc_so (si_dup F dX8_init_230)
  (zc_so (si_iconst F dX8_init_231 rfl)
  (zc_so (si_iconst F dX8_init_232 rfl)
  (zc_so (si_iastore F dX8_init_233)
  (zc_so (si_dup F dX8_init_234)
  (zc_so (si_iconst F dX8_init_235 rfl)
  (zc_so (si_iconst F dX8_init_236 rfl)
  (zc_so (si_iastore F dX8_init_237)
  (zc_so (si_dup F dX8_init_238)
  (zc_so (si_iconst F dX8_init_239 rfl)
  (zc_so (si_iconst F dX8_init_240 rfl)
  (zc_so (si_iastore F dX8_init_241)
  (zc_so (si_dup F dX8_init_242)
  (zc_so (si_iconst F dX8_init_243 rfl)
  (zc_so (si_iconst F dX8_init_244 rfl)
  (zc_so (si_iastore F dX8_init_245)
  (zc_so (si_dup F dX8_init_246)
  (zc_so (si_iconst F dX8_init_247 rfl)
  (zc_so (si_iconst F dX8_init_248 rfl)
  (zc_so (si_iastore F dX8_init_249)
  (zc_so (si_dup F dX8_init_250)
  (zc_so (si_bipush F dX8_init_251 rfl)
  (zc_so (si_iconst F dX8_init_253 rfl)
  (zc_so (si_iastore F dX8_init_254)
  (zc_so (si_putRF (k := 21) F rfl inT8 (by decide) (by decide) rfl rfl rfl (fun o => by cases o <;> exact ⟨rfl, rfl⟩) rfl hin rfl tyX8_ok nmX8 tb_725 dX8_init_255)
  (zc_nil)))))))))))))))))))))))))))))))))))))))))))))))))))
theorem sd801_4 (F : zFx p l R s m args meth c D cid kv N0 xs Ls RX8 cX8_init 1 n0 z0 nF zE d) (IH : zAllM l D cid kv N0 xs Ls d) (hQ : ∀ v h, Qq v h → v = r0 ∧ h = hF) (hn : nF = zN hF) (hz : zE = zZ hF) (hlocks : meth.locks = false) (hr : meth.sig.returnType = none) (hin : meth.name = "<init>") : zSoL p l e R s m args below meth c D cid kv N0 xs Ls 1 (MQ below (zQc D cid kv N0 xs Ls ρ0 r0 hF) args s (nF - n0) (zE - z0) (zA N0)) ρ0 n0 z0 nF zE Qq (zCall d) zt801_4 := zc_so (si_aload_n F dX8_init_258 rfl)
  (zc_so (si_bipush F dX8_init_259 rfl)
  (zc_so (so_naI (ty := .int) (atype := .int) F.1 F.2.1 (by decide) (by decide) rfl rfl (fun C h => by cases h) (by decide) rfl (F.1.2.2.2.2 _ tb_82) F.2.2.2.2.1 F.2.2.1 F.2.2.2.1 dX8_init_261)
  (zc_so (si_dup F dX8_init_263)
  (zc_so (si_iconst F dX8_init_264 rfl)
  (zc_so (si_bipush F dX8_init_265 rfl)
  (zc_so (si_iastore F dX8_init_267)
  (zc_so (si_dup F dX8_init_268)
  (zc_so (si_iconst F dX8_init_269 rfl)
  (zc_so (si_bipush F dX8_init_270 rfl)
  (zc_so (si_iastore F dX8_init_272)
  (zc_so (si_dup F dX8_init_273)
  (zc_so (si_iconst F dX8_init_274 rfl)
  (zc_so (si_bipush F dX8_init_275 rfl)
  (zc_so (si_iastore F dX8_init_277)
  (zc_so (si_dup F dX8_init_278)
  (zc_so (si_iconst F dX8_init_279 rfl)
  (zc_so (si_iconst F dX8_init_280 rfl)
  (zc_so (si_iastore F dX8_init_281)
  (zc_so (si_dup F dX8_init_282)
  (zc_so (si_iconst F dX8_init_283 rfl)
  (zc_so (si_bipush F dX8_init_284 rfl)
  (zc_so (si_iastore F dX8_init_286)
  (zc_so (si_dup F dX8_init_287)
  (zc_so (si_iconst F dX8_init_288 rfl)
  (zc_so (si_iconst F dX8_init_289 rfl)
  (zc_so (si_iastore F dX8_init_290)
  (zc_so (si_dup F dX8_init_291)
  (zc_so (si_bipush F dX8_init_292 rfl)
  (zc_so (si_bipush F dX8_init_294 rfl)
  (zc_so (si_iastore F dX8_init_296)
  (zc_so (si_dup F dX8_init_297)
  (zc_so (si_bipush F dX8_init_298 rfl)
  (zc_so (si_iconst F dX8_init_300 rfl)
  (zc_so (si_iastore F dX8_init_301)
  (zc_so (si_dup F dX8_init_302)
  (zc_so (si_bipush F dX8_init_303 rfl)
  (zc_so (si_iconst F dX8_init_305 rfl)
  (zc_so (si_iastore F dX8_init_306)
  (zc_so (si_dup F dX8_init_307)
  (zc_so (si_bipush F dX8_init_308 rfl)
  (zc_so (si_iconst F dX8_init_310 rfl)
  (zc_so (si_iastore F dX8_init_311)
  (zc_so (si_dup F dX8_init_312)
  (zc_so (si_bipush F dX8_init_313 rfl)
  (zc_so (si_iconst F dX8_init_315 rfl)
  (zc_so (si_iastore F dX8_init_316)
  (zc_so (si_dup F dX8_init_317)
  (zc_so (si_bipush F dX8_init_318 rfl)
  (zc_nil)))))))))))))))))))))))))))))))))))))))))))))))))
theorem sd801_5 (F : zFx p l R s m args meth c D cid kv N0 xs Ls RX8 cX8_init 1 n0 z0 nF zE d) (IH : zAllM l D cid kv N0 xs Ls d) (hQ : ∀ v h, Qq v h → v = r0 ∧ h = hF) (hn : nF = zN hF) (hz : zE = zZ hF) (hlocks : meth.locks = false) (hr : meth.sig.returnType = none) (hin : meth.name = "<init>") : zSoL p l e R s m args below meth c D cid kv N0 xs Ls 1 (MQ below (zQc D cid kv N0 xs Ls ρ0 r0 hF) args s (nF - n0) (zE - z0) (zA N0)) ρ0 n0 z0 nF zE Qq (zCall d) zt801_5 := zc_so (si_bipush F dX8_init_320 rfl)
  (zc_so (si_iastore F dX8_init_322)
  (zc_so (si_dup F dX8_init_323)
  (zc_so (si_bipush F dX8_init_324 rfl)
  (zc_so (si_bipush F dX8_init_326 rfl)
  (zc_so (si_iastore F dX8_init_328)
  (zc_so (si_dup F dX8_init_329)
  (zc_so (si_bipush F dX8_init_330 rfl)
  (zc_so (si_bipush F dX8_init_332 rfl)
  (zc_so (si_iastore F dX8_init_334)
  (zc_so (si_dup F dX8_init_335)
  (zc_so (si_bipush F dX8_init_336 rfl)
  (zc_so (si_iconst F dX8_init_338 rfl)
  (zc_so (si_iastore F dX8_init_339)
  (zc_so (si_dup F dX8_init_340)
  (zc_so (si_bipush F dX8_init_341 rfl)
  (zc_so (si_iconst F dX8_init_343 rfl)
  (zc_so (si_iastore F dX8_init_344)
  (zc_so (si_dup F dX8_init_345)
  (zc_so (si_bipush F dX8_init_346 rfl)
  (zc_so (si_iconst F dX8_init_348 rfl)
  (zc_so (si_iastore F dX8_init_349)
  (zc_so (si_dup F dX8_init_350)
  (zc_so (si_bipush F dX8_init_351 rfl)
  (zc_so (si_bipush F dX8_init_353 rfl)
  (zc_so (si_iastore F dX8_init_355)
  (zc_so (si_dup F dX8_init_356)
  (zc_so (si_bipush F dX8_init_357 rfl)
  (zc_so (si_bipush F dX8_init_359 rfl)
  (zc_so (si_iastore F dX8_init_361)
  (zc_so (si_dup F dX8_init_362)
  (zc_so (si_bipush F dX8_init_363 rfl)
  (zc_so (si_bipush F dX8_init_365 rfl)
  (zc_so (si_iastore F dX8_init_367)
  (zc_so (si_dup F dX8_init_368)
  (zc_so (si_bipush F dX8_init_369 rfl)
  (zc_so (si_iconst F dX8_init_371 rfl)
  (zc_so (si_iastore F dX8_init_372)
  (zc_so (si_putRF (k := 22) F rfl inT8 (by decide) (by decide) rfl rfl rfl (fun o => by cases o <;> exact ⟨rfl, rfl⟩) rfl hin rfl tyX8_ok nmX8 tb_726 dX8_init_373)
  (zc_so (si_aload_n F dX8_init_376 rfl)
  (zc_so (si_bipush F dX8_init_377 rfl)
  (zc_so (so_naI (ty := .int) (atype := .int) F.1 F.2.1 (by decide) (by decide) rfl rfl (fun C h => by cases h) (by decide) rfl (F.1.2.2.2.2 _ tb_82) F.2.2.2.2.1 F.2.2.1 F.2.2.2.1 dX8_init_379)
  (zc_so (si_putRF (k := 23) F rfl inT8 (by decide) (by decide) rfl rfl rfl (fun o => by cases o <;> exact ⟨rfl, rfl⟩) rfl hin rfl tyX8_ok nmX8 tb_727 dX8_init_381)
  (zc_nil)))))))))))))))))))))))))))))))))))))))))))
theorem sd801_6 (F : zFx p l R s m args meth c D cid kv N0 xs Ls RX8 cX8_init 1 n0 z0 nF zE d) (IH : zAllM l D cid kv N0 xs Ls d) (hQ : ∀ v h, Qq v h → v = r0 ∧ h = hF) (hn : nF = zN hF) (hz : zE = zZ hF) (hlocks : meth.locks = false) (hr : meth.sig.returnType = none) (hin : meth.name = "<init>") : zSoL p l e R s m args below meth c D cid kv N0 xs Ls 1 (MQ below (zQc D cid kv N0 xs Ls ρ0 r0 hF) args s (nF - n0) (zE - z0) (zA N0)) ρ0 n0 z0 nF zE Qq (zCall d) zt801_6 := zc_so (si_aload_n F dX8_init_384 rfl)
  (zc_so (si_bipush F dX8_init_385 rfl)
  (zc_so (so_naI (ty := .int) (atype := .int) F.1 F.2.1 (by decide) (by decide) rfl rfl (fun C h => by cases h) (by decide) rfl (F.1.2.2.2.2 _ tb_82) F.2.2.2.2.1 F.2.2.1 F.2.2.2.1 dX8_init_387)
  (zc_so (si_dup F dX8_init_389)
  (zc_so (si_iconst F dX8_init_390 rfl)
  (zc_so (si_iconst F dX8_init_391 rfl)
  (zc_so (si_iastore F dX8_init_392)
  (zc_so (si_dup F dX8_init_393)
  (zc_so (si_iconst F dX8_init_394 rfl)
  (zc_so (si_iconst F dX8_init_395 rfl)
  (zc_so (si_iastore F dX8_init_396)
  (zc_so (si_dup F dX8_init_397)
  (zc_so (si_iconst F dX8_init_398 rfl)
  (zc_so (si_iconst F dX8_init_399 rfl)
  (zc_so (si_iastore F dX8_init_400)
  (zc_so (si_dup F dX8_init_401)
  (zc_so (si_iconst F dX8_init_402 rfl)
  (zc_so (si_iconst F dX8_init_403 rfl)
  (zc_so (si_iastore F dX8_init_404)
  (zc_so (si_dup F dX8_init_405)
  (zc_so (si_iconst F dX8_init_406 rfl)
  (zc_so (si_iconst F dX8_init_407 rfl)
  (zc_so (si_iastore F dX8_init_408)
  (zc_so (si_dup F dX8_init_409)
  (zc_so (si_iconst F dX8_init_410 rfl)
  (zc_so (si_iconst F dX8_init_411 rfl)
  (zc_so (si_iastore F dX8_init_412)
  (zc_so (si_putRF (k := 25) F rfl inT8 (by decide) (by decide) rfl rfl rfl (fun o => by cases o <;> exact ⟨rfl, rfl⟩) rfl hin rfl tyX8_ok nmX8 tb_729 dX8_init_413)
  (zc_so (si_aload_n F dX8_init_416 rfl)
  (zc_so (si_bipush F dX8_init_417 rfl)
  (zc_so (so_naI (ty := .int) (atype := .int) F.1 F.2.1 (by decide) (by decide) rfl rfl (fun C h => by cases h) (by decide) rfl (F.1.2.2.2.2 _ tb_82) F.2.2.2.2.1 F.2.2.1 F.2.2.2.1 dX8_init_419)
  (zc_so (si_putRF (k := 26) F rfl inT8 (by decide) (by decide) rfl rfl rfl (fun o => by cases o <;> exact ⟨rfl, rfl⟩) rfl hin rfl tyX8_ok nmX8 tb_730 dX8_init_421)
  (zc_so (si_aload_n F dX8_init_424 rfl)
  (zc_so (si_sipush F dX8_init_425 rfl)
  (zc_so (so_naJ F.1 F.2.1 (F.1.2.2.2.2 _ tb_215) F.2.2.2.2.1 F.2.2.1 F.2.2.2.1 dX8_init_428)
  (zc_so (si_putRF (k := 27) F rfl inT8 (by decide) (by decide) rfl rfl rfl (fun o => by cases o <;> exact ⟨rfl, rfl⟩) rfl hin rfl tyX8_ok nmX8 tb_731 dX8_init_430)
  (zc_so (si_aload_n F dX8_init_433 rfl)
  (zc_so (si_bipush F dX8_init_434 rfl)
  (zc_so (so_naJ F.1 F.2.1 (F.1.2.2.2.2 _ tb_215) F.2.2.2.2.1 F.2.2.1 F.2.2.2.1 dX8_init_436)
  (zc_so (si_putRF (k := 28) F rfl inT8 (by decide) (by decide) rfl rfl rfl (fun o => by cases o <;> exact ⟨rfl, rfl⟩) rfl hin rfl tyX8_ok nmX8 tb_732 dX8_init_438)
  (zc_so (si_rV F hQ hn hz hlocks hr dX8_init_441)
  (zc_nil)))))))))))))))))))))))))))))))))))))))))
theorem sd801 (F : zFx p l R s m args meth c D cid kv N0 xs Ls RX8 cX8_init 1 n0 z0 nF zE d) (IH : zAllM l D cid kv N0 xs Ls d) (hQ : ∀ v h, Qq v h → v = r0 ∧ h = hF) (hn : nF = zN hF) (hz : zE = zZ hF) (hlocks : meth.locks = false) (hr : meth.sig.returnType = none) (hin : meth.name = "<init>") (pc : Nat) : zSo p l e R s m args below meth c D cid kv N0 xs Ls 1 (MQ below (zQc D cid kv N0 xs Ls ρ0 r0 hF) args s (nF - n0) (zE - z0) (zA N0)) ρ0 n0 z0 nF zE Qq (zCall d) pc (zTab 801 pc) := zc_tab [zt801_0, zt801_1, zt801_2, zt801_3, zt801_4, zt801_5, zt801_6] (zc_cons (sd801_0 F IH hQ hn hz hlocks hr hin) (zc_cons (sd801_1 F IH hQ hn hz hlocks hr hin) (zc_cons (sd801_2 F IH hQ hn hz hlocks hr hin) (zc_cons (sd801_3 F IH hQ hn hz hlocks hr hin) (zc_cons (sd801_4 F IH hQ hn hz hlocks hr hin) (zc_cons (sd801_5 F IH hQ hn hz hlocks hr hin) (zc_cons (sd801_6 F IH hQ hn hz hlocks hr hin) zc_end)))))))
theorem dX8_isIn_0 : decode cX8_isIn 0 = .ok (.iload_n 0, 1) := by decide +kernel
theorem dX8_isIn_1 : decode cX8_isIn 1 = .ok (.iload_n 1, 1) := by decide +kernel
theorem dX8_isIn_2 : decode cX8_isIn 2 = .ok (.if_icmp .lt 12, 3) := by decide +kernel
theorem dX8_isIn_5 : decode cX8_isIn 5 = .ok (.iload_n 0, 1) := by decide +kernel
theorem dX8_isIn_6 : decode cX8_isIn 6 = .ok (.iload_n 2, 1) := by decide +kernel
theorem dX8_isIn_7 : decode cX8_isIn 7 = .ok (.if_icmp .gt 7, 3) := by decide +kernel
theorem dX8_isIn_10 : decode cX8_isIn 10 = .ok (.iconst 1, 1) := by decide +kernel
theorem dX8_isIn_11 : decode cX8_isIn 11 = .ok (.goto 4, 3) := by decide +kernel
theorem dX8_isIn_14 : decode cX8_isIn 14 = .ok (.iconst 0, 1) := by decide +kernel
theorem dX8_isIn_15 : decode cX8_isIn 15 = .ok (.ireturn, 1) := by decide +kernel
theorem sd802_0 (F : zFx p l R s m args meth c D cid kv N0 xs Ls RX8 cX8_isIn 3 n0 z0 nF zE d) (IH : zAllM l D cid kv N0 xs Ls d) (hQ : ∀ v h, Qq v h → v = r0 ∧ h = hF) (hn : nF = zN hF) (hz : zE = zZ hF) (hlocks : meth.locks = false) (hr : meth.sig.returnType = (some .boolean)) : zSoL p l e R s m args below meth c D cid kv N0 xs Ls 3 (MQ below (zQc D cid kv N0 xs Ls ρ0 r0 hF) args s (nF - n0) (zE - z0) (zA N0)) ρ0 n0 z0 nF zE Qq (zCall d) zt802_0 := zc_so (si_iload_n F dX8_isIn_0 rfl)
  (zc_so (si_iload_n F dX8_isIn_1 rfl)
  (zc_so (si_iclt F dX8_isIn_2 rfl)
  (zc_so (si_iload_n F dX8_isIn_5 rfl)
  (zc_so (si_iload_n F dX8_isIn_6 rfl)
  (zc_so (si_icgt F dX8_isIn_7 rfl)
  (zc_so (si_iconst F dX8_isIn_10 rfl)
  (zc_so (si_goto F dX8_isIn_11 rfl)
  (zc_so (si_iconst F dX8_isIn_14 rfl)
  (zc_so (si_rI F hQ hn hz hlocks hr (fun x h => by rcases h with rfl | rfl <;> rfl) dX8_isIn_15)
  (zc_nil))))))))))
theorem sd802 (F : zFx p l R s m args meth c D cid kv N0 xs Ls RX8 cX8_isIn 3 n0 z0 nF zE d) (IH : zAllM l D cid kv N0 xs Ls d) (hQ : ∀ v h, Qq v h → v = r0 ∧ h = hF) (hn : nF = zN hF) (hz : zE = zZ hF) (hlocks : meth.locks = false) (hr : meth.sig.returnType = (some .boolean)) (pc : Nat) : zSo p l e R s m args below meth c D cid kv N0 xs Ls 3 (MQ below (zQc D cid kv N0 xs Ls ρ0 r0 hF) args s (nF - n0) (zE - z0) (zA N0)) ρ0 n0 z0 nF zE Qq (zCall d) pc (zTab 802 pc) := zc_tab [zt802_0] (zc_cons (sd802_0 F IH hQ hn hz hlocks hr) zc_end)
theorem dX8_fresh_0 : decode cX8_fresh 0 = .ok (.bipush 118, 2) := by decide +kernel
theorem dX8_fresh_2 : decode cX8_fresh 2 = .ok (.newarray .int, 2) := by decide +kernel
theorem dX8_fresh_4 : decode cX8_fresh 4 = .ok (.astore_n 0, 1) := by decide +kernel
theorem dX8_fresh_5 : decode cX8_fresh 5 = .ok (.aload_n 0, 1) := by decide +kernel
theorem dX8_fresh_6 : decode cX8_fresh 6 = .ok (.bipush 61, 2) := by decide +kernel
theorem dX8_fresh_8 : decode cX8_fresh 8 = .ok (.sipush 500, 3) := by decide +kernel
theorem dX8_fresh_11 : decode cX8_fresh 11 = .ok (.iastore, 1) := by decide +kernel
theorem dX8_fresh_12 : decode cX8_fresh 12 = .ok (.aload_n 0, 1) := by decide +kernel
theorem dX8_fresh_13 : decode cX8_fresh 13 = .ok (.areturn, 1) := by decide +kernel
theorem sd803_0 (F : zFx p l R s m args meth c D cid kv N0 xs Ls RX8 cX8_fresh 1 n0 z0 nF zE d) (IH : zAllM l D cid kv N0 xs Ls d) (hQ : ∀ v h, Qq v h → v = r0 ∧ h = hF) (hn : nF = zN hF) (hz : zE = zZ hF) (hlocks : meth.locks = false) (hr : meth.sig.returnType = (some (.array .int))) : zSoL p l e R s m args below meth c D cid kv N0 xs Ls 1 (MQ below (zQc D cid kv N0 xs Ls ρ0 r0 hF) args s (nF - n0) (zE - z0) (zA N0)) ρ0 n0 z0 nF zE Qq (zCall d) zt803_0 := zc_so (si_bipush F dX8_fresh_0 rfl)
  (zc_so (so_naI (ty := .int) (atype := .int) F.1 F.2.1 (by decide) (by decide) rfl rfl (fun C h => by cases h) (by decide) rfl (F.1.2.2.2.2 _ tb_82) F.2.2.2.2.1 F.2.2.1 F.2.2.2.1 dX8_fresh_2)
  (zc_so (si_astore_n F dX8_fresh_4 rfl)
  (zc_so (si_aload_n F dX8_fresh_5 rfl)
  (zc_so (si_bipush F dX8_fresh_6 rfl)
  (zc_so (si_sipush F dX8_fresh_8 rfl)
  (zc_so (si_iastore F dX8_fresh_11)
  (zc_so (si_aload_n F dX8_fresh_12 rfl)
  (zc_so (si_rA F hQ hn hz hlocks hr (Or.inr ⟨_, rfl⟩) dX8_fresh_13)
  (zc_nil)))))))))
theorem sd803 (F : zFx p l R s m args meth c D cid kv N0 xs Ls RX8 cX8_fresh 1 n0 z0 nF zE d) (IH : zAllM l D cid kv N0 xs Ls d) (hQ : ∀ v h, Qq v h → v = r0 ∧ h = hF) (hn : nF = zN hF) (hz : zE = zZ hF) (hlocks : meth.locks = false) (hr : meth.sig.returnType = (some (.array .int))) (pc : Nat) : zSo p l e R s m args below meth c D cid kv N0 xs Ls 1 (MQ below (zQc D cid kv N0 xs Ls ρ0 r0 hF) args s (nF - n0) (zE - z0) (zA N0)) ρ0 n0 z0 nF zE Qq (zCall d) pc (zTab 803 pc) := zc_tab [zt803_0] (zc_cons (sd803_0 F IH hQ hn hz hlocks hr) zc_end)
theorem dX8_move_0 : decode cX8_move 0 = .ok (.iconst 0, 1) := by decide +kernel
theorem dX8_move_1 : decode cX8_move 1 = .ok (.istore_n 2, 1) := by decide +kernel
theorem dX8_move_2 : decode cX8_move 2 = .ok (.iload_n 2, 1) := by decide +kernel
theorem dX8_move_3 : decode cX8_move 3 = .ok (.bipush 118, 2) := by decide +kernel
theorem dX8_move_5 : decode cX8_move 5 = .ok (.if_icmp .ge 15, 3) := by decide +kernel
theorem dX8_move_8 : decode cX8_move 8 = .ok (.aload_n 1, 1) := by decide +kernel
theorem dX8_move_9 : decode cX8_move 9 = .ok (.iload_n 2, 1) := by decide +kernel
theorem dX8_move_10 : decode cX8_move 10 = .ok (.aload_n 0, 1) := by decide +kernel
theorem dX8_move_11 : decode cX8_move 11 = .ok (.iload_n 2, 1) := by decide +kernel
theorem dX8_move_12 : decode cX8_move 12 = .ok (.iaload, 1) := by decide +kernel
theorem dX8_move_13 : decode cX8_move 13 = .ok (.iastore, 1) := by decide +kernel
theorem dX8_move_14 : decode cX8_move 14 = .ok (.iinc 2 1, 3) := by decide +kernel
theorem dX8_move_17 : decode cX8_move 17 = .ok (.goto (-15), 3) := by decide +kernel
theorem dX8_move_20 : decode cX8_move 20 = .ok (.return_, 1) := by decide +kernel
theorem sd804_0 (F : zFx p l R s m args meth c D cid kv N0 xs Ls RX8 cX8_move 3 n0 z0 nF zE d) (IH : zAllM l D cid kv N0 xs Ls d) (hQ : ∀ v h, Qq v h → v = r0 ∧ h = hF) (hn : nF = zN hF) (hz : zE = zZ hF) (hlocks : meth.locks = false) (hr : meth.sig.returnType = none) : zSoL p l e R s m args below meth c D cid kv N0 xs Ls 3 (MQ below (zQc D cid kv N0 xs Ls ρ0 r0 hF) args s (nF - n0) (zE - z0) (zA N0)) ρ0 n0 z0 nF zE Qq (zCall d) zt804_0 := zc_so (si_iconst F dX8_move_0 rfl)
  (zc_so (si_istore_n F dX8_move_1 rfl)
  (zc_so (si_iload_n F dX8_move_2 rfl)
  (zc_so (si_bipush F dX8_move_3 rfl)
  (zc_so (si_icge F dX8_move_5 rfl)
  (zc_so (si_aload_n F dX8_move_8 rfl)
  (zc_so (si_iload_n F dX8_move_9 rfl)
  (zc_so (si_aload_n F dX8_move_10 rfl)
  (zc_so (si_iload_n F dX8_move_11 rfl)
  (zc_so (si_iaload F dX8_move_12)
  (zc_so (si_iastore F dX8_move_13)
  (zc_so (si_iinc F dX8_move_14 rfl)
  (zc_so (si_goto F dX8_move_17 rfl)
  (zc_so (si_rV F hQ hn hz hlocks hr dX8_move_20)
  (zc_nil))))))))))))))
theorem sd804 (F : zFx p l R s m args meth c D cid kv N0 xs Ls RX8 cX8_move 3 n0 z0 nF zE d) (IH : zAllM l D cid kv N0 xs Ls d) (hQ : ∀ v h, Qq v h → v = r0 ∧ h = hF) (hn : nF = zN hF) (hz : zE = zZ hF) (hlocks : meth.locks = false) (hr : meth.sig.returnType = none) (pc : Nat) : zSo p l e R s m args below meth c D cid kv N0 xs Ls 3 (MQ below (zQc D cid kv N0 xs Ls ρ0 r0 hF) args s (nF - n0) (zE - z0) (zA N0)) ρ0 n0 z0 nF zE Qq (zCall d) pc (zTab 804 pc) := zc_tab [zt804_0] (zc_cons (sd804_0 F IH hQ hn hz hlocks hr) zc_end)
theorem dX8_image_0 : decode cX8_image 0 = .ok (.aload_n 0, 1) := by decide +kernel
theorem dX8_image_1 : decode cX8_image 1 = .ok (.iconst 1, 1) := by decide +kernel
theorem dX8_image_2 : decode cX8_image 2 = .ok (.putfield 76, 3) := by decide +kernel
theorem dX8_image_5 : decode cX8_image 5 = .ok (.aload_n 0, 1) := by decide +kernel
theorem dX8_image_6 : decode cX8_image 6 = .ok (.getfield 15, 3) := by decide +kernel
theorem dX8_image_9 : decode cX8_image 9 = .ok (.aload_n 0, 1) := by decide +kernel
theorem dX8_image_10 : decode cX8_image 10 = .ok (.getfield 22, 3) := by decide +kernel
theorem dX8_image_13 : decode cX8_image 13 = .ok (.invokestatic 80, 3) := by decide +kernel
theorem dX8_image_16 : decode cX8_image 16 = .ok (.aload_n 0, 1) := by decide +kernel
theorem dX8_image_17 : decode cX8_image 17 = .ok (.getfield 15, 3) := by decide +kernel
theorem dX8_image_20 : decode cX8_image 20 = .ok (.bipush 60, 2) := by decide +kernel
theorem dX8_image_22 : decode cX8_image 22 = .ok (.iaload, 1) := by decide +kernel
theorem dX8_image_23 : decode cX8_image 23 = .ok (.ireturn, 1) := by decide +kernel
theorem sd805_0 (F : zFx p l R s m args meth c D cid kv N0 xs Ls RX8 cX8_image 1 n0 z0 nF zE d) (IH : zAllM l D cid kv N0 xs Ls d) (hQ : ∀ v h, Qq v h → v = r0 ∧ h = hF) (hn : nF = zN hF) (hz : zE = zZ hF) (hlocks : meth.locks = false) (hr : meth.sig.returnType = (some .int)) : zSoL p l e R s m args below meth c D cid kv N0 xs Ls 1 (MQ below (zQc D cid kv N0 xs Ls ρ0 r0 hF) args s (nF - n0) (zE - z0) (zA N0)) ρ0 n0 z0 nF zE Qq (zCall d) zt805_0 := zc_so (si_aload_n F dX8_image_0 rfl)
  (zc_so (si_iconst F dX8_image_1 rfl)
  (zc_so (si_putZ (k := 3) F rfl inT8 (by decide) (by decide) rfl rfl rfl rfl tyX8_ok nmX8 tb_707 dX8_image_2)
  (zc_so (si_aload_n F dX8_image_5 rfl)
  (zc_so (si_getR (k := 0) F rfl inT8 (by decide) (by decide) rfl rfl tb_704 dX8_image_6)
  (zc_so (si_aload_n F dX8_image_9 rfl)
  (zc_so (si_getR (k := 2) F rfl inT8 (by decide) (by decide) rfl rfl tb_706 dX8_image_10)
  (zc_so (si_cS  F (IH 804 mm804) mp804 (by decide) tb_797 mi804 mn804 mc804 dX8_image_13)
  (zc_so (si_aload_n F dX8_image_16 rfl)
  (zc_so (si_getR (k := 0) F rfl inT8 (by decide) (by decide) rfl rfl tb_704 dX8_image_17)
  (zc_so (si_bipush F dX8_image_20 rfl)
  (zc_so (si_iaload F dX8_image_22)
  (zc_so (si_rI F hQ hn hz hlocks hr (fun _ _ => rfl) dX8_image_23)
  (zc_nil)))))))))))))
theorem sd805 (F : zFx p l R s m args meth c D cid kv N0 xs Ls RX8 cX8_image 1 n0 z0 nF zE d) (IH : zAllM l D cid kv N0 xs Ls d) (hQ : ∀ v h, Qq v h → v = r0 ∧ h = hF) (hn : nF = zN hF) (hz : zE = zZ hF) (hlocks : meth.locks = false) (hr : meth.sig.returnType = (some .int)) (pc : Nat) : zSo p l e R s m args below meth c D cid kv N0 xs Ls 1 (MQ below (zQc D cid kv N0 xs Ls ρ0 r0 hF) args s (nF - n0) (zE - z0) (zA N0)) ρ0 n0 z0 nF zE Qq (zCall d) pc (zTab 805 pc) := zc_tab [zt805_0] (zc_cons (sd805_0 F IH hQ hn hz hlocks hr) zc_end)
theorem dX8_undo_0 : decode cX8_undo 0 = .ok (.aload_n 0, 1) := by decide +kernel
theorem dX8_undo_1 : decode cX8_undo 1 = .ok (.getfield 76, 3) := by decide +kernel
theorem dX8_undo_4 : decode cX8_undo 4 = .ok (.ifCond .ne 6, 3) := by decide +kernel
theorem dX8_undo_7 : decode cX8_undo 7 = .ok (.bipush (-3), 2) := by decide +kernel
theorem dX8_undo_9 : decode cX8_undo 9 = .ok (.ireturn, 1) := by decide +kernel
theorem dX8_undo_10 : decode cX8_undo 10 = .ok (.aload_n 0, 1) := by decide +kernel
theorem dX8_undo_11 : decode cX8_undo 11 = .ok (.getfield 22, 3) := by decide +kernel
theorem dX8_undo_14 : decode cX8_undo 14 = .ok (.aload_n 0, 1) := by decide +kernel
theorem dX8_undo_15 : decode cX8_undo 15 = .ok (.getfield 15, 3) := by decide +kernel
theorem dX8_undo_18 : decode cX8_undo 18 = .ok (.invokestatic 80, 3) := by decide +kernel
theorem dX8_undo_21 : decode cX8_undo 21 = .ok (.aload_n 0, 1) := by decide +kernel
theorem dX8_undo_22 : decode cX8_undo 22 = .ok (.getfield 15, 3) := by decide +kernel
theorem dX8_undo_25 : decode cX8_undo 25 = .ok (.bipush 60, 2) := by decide +kernel
theorem dX8_undo_27 : decode cX8_undo 27 = .ok (.iaload, 1) := by decide +kernel
theorem dX8_undo_28 : decode cX8_undo 28 = .ok (.ireturn, 1) := by decide +kernel
theorem sd806_0 (F : zFx p l R s m args meth c D cid kv N0 xs Ls RX8 cX8_undo 1 n0 z0 nF zE d) (IH : zAllM l D cid kv N0 xs Ls d) (hQ : ∀ v h, Qq v h → v = r0 ∧ h = hF) (hn : nF = zN hF) (hz : zE = zZ hF) (hlocks : meth.locks = false) (hr : meth.sig.returnType = (some .int)) : zSoL p l e R s m args below meth c D cid kv N0 xs Ls 1 (MQ below (zQc D cid kv N0 xs Ls ρ0 r0 hF) args s (nF - n0) (zE - z0) (zA N0)) ρ0 n0 z0 nF zE Qq (zCall d) zt806_0 := zc_so (si_aload_n F dX8_undo_0 rfl)
  (zc_so (si_getI (k := 3) F rfl inT8 (by decide) (by decide) rfl rfl tb_707 dX8_undo_1)
  (zc_so (si_ifne F dX8_undo_4 rfl)
  (zc_so (si_bipush F dX8_undo_7 rfl)
  (zc_so (si_rI F hQ hn hz hlocks hr (fun _ _ => rfl) dX8_undo_9)
  (zc_so (si_aload_n F dX8_undo_10 rfl)
  (zc_so (si_getR (k := 2) F rfl inT8 (by decide) (by decide) rfl rfl tb_706 dX8_undo_11)
  (zc_so (si_aload_n F dX8_undo_14 rfl)
  (zc_so (si_getR (k := 0) F rfl inT8 (by decide) (by decide) rfl rfl tb_704 dX8_undo_15)
  (zc_so (si_cS  F (IH 804 mm804) mp804 (by decide) tb_797 mi804 mn804 mc804 dX8_undo_18)
  (zc_so (si_aload_n F dX8_undo_21 rfl)
  (zc_so (si_getR (k := 0) F rfl inT8 (by decide) (by decide) rfl rfl tb_704 dX8_undo_22)
  (zc_so (si_bipush F dX8_undo_25 rfl)
  (zc_so (si_iaload F dX8_undo_27)
  (zc_so (si_rI F hQ hn hz hlocks hr (fun _ _ => rfl) dX8_undo_28)
  (zc_nil)))))))))))))))
theorem sd806 (F : zFx p l R s m args meth c D cid kv N0 xs Ls RX8 cX8_undo 1 n0 z0 nF zE d) (IH : zAllM l D cid kv N0 xs Ls d) (hQ : ∀ v h, Qq v h → v = r0 ∧ h = hF) (hn : nF = zN hF) (hz : zE = zZ hF) (hlocks : meth.locks = false) (hr : meth.sig.returnType = (some .int)) (pc : Nat) : zSo p l e R s m args below meth c D cid kv N0 xs Ls 1 (MQ below (zQc D cid kv N0 xs Ls ρ0 r0 hF) args s (nF - n0) (zE - z0) (zA N0)) ρ0 n0 z0 nF zE Qq (zCall d) pc (zTab 806 pc) := zc_tab [zt806_0] (zc_cons (sd806_0 F IH hQ hn hz hlocks hr) zc_end)
theorem dX8_isOne_0 : decode cX8_isOne 0 = .ok (.iload_n 1, 1) := by decide +kernel
theorem dX8_isOne_1 : decode cX8_isOne 1 = .ok (.iconst 0, 1) := by decide +kernel
theorem dX8_isOne_2 : decode cX8_isOne 2 = .ok (.aload_n 0, 1) := by decide +kernel
theorem dX8_isOne_3 : decode cX8_isOne 3 = .ok (.getfield 15, 3) := by decide +kernel
theorem dX8_isOne_6 : decode cX8_isOne 6 = .ok (.bipush 60, 2) := by decide +kernel
theorem dX8_isOne_8 : decode cX8_isOne 8 = .ok (.iaload, 1) := by decide +kernel
theorem dX8_isOne_9 : decode cX8_isOne 9 = .ok (.iconst 1, 1) := by decide +kernel
theorem dX8_isOne_10 : decode cX8_isOne 10 = .ok (.isub, 1) := by decide +kernel
theorem dX8_isOne_11 : decode cX8_isOne 11 = .ok (.invokestatic 84, 3) := by decide +kernel
theorem dX8_isOne_14 : decode cX8_isOne 14 = .ok (.ireturn, 1) := by decide +kernel
theorem sd807_0 (F : zFx p l R s m args meth c D cid kv N0 xs Ls RX8 cX8_isOne 2 n0 z0 nF zE d) (IH : zAllM l D cid kv N0 xs Ls d) (hQ : ∀ v h, Qq v h → v = r0 ∧ h = hF) (hn : nF = zN hF) (hz : zE = zZ hF) (hlocks : meth.locks = false) (hr : meth.sig.returnType = (some .boolean)) : zSoL p l e R s m args below meth c D cid kv N0 xs Ls 2 (MQ below (zQc D cid kv N0 xs Ls ρ0 r0 hF) args s (nF - n0) (zE - z0) (zA N0)) ρ0 n0 z0 nF zE Qq (zCall d) zt807_0 := zc_so (si_iload_n F dX8_isOne_0 rfl)
  (zc_so (si_iconst F dX8_isOne_1 rfl)
  (zc_so (si_aload_n F dX8_isOne_2 rfl)
  (zc_so (si_getR (k := 0) F rfl inT8 (by decide) (by decide) rfl rfl tb_704 dX8_isOne_3)
  (zc_so (si_bipush F dX8_isOne_6 rfl)
  (zc_so (si_iaload F dX8_isOne_8)
  (zc_so (si_iconst F dX8_isOne_9 rfl)
  (zc_so (si_isub F dX8_isOne_10)
  (zc_so (si_cS  F (IH 802 mm802) mp802 (by decide) tb_808 mi802 mn802 mc802 dX8_isOne_11)
  (zc_so (si_rI F hQ hn hz hlocks hr (fun x h => by rcases h with rfl | rfl <;> rfl) dX8_isOne_14)
  (zc_nil))))))))))
theorem sd807 (F : zFx p l R s m args meth c D cid kv N0 xs Ls RX8 cX8_isOne 2 n0 z0 nF zE d) (IH : zAllM l D cid kv N0 xs Ls d) (hQ : ∀ v h, Qq v h → v = r0 ∧ h = hF) (hn : nF = zN hF) (hz : zE = zZ hF) (hlocks : meth.locks = false) (hr : meth.sig.returnType = (some .boolean)) (pc : Nat) : zSo p l e R s m args below meth c D cid kv N0 xs Ls 2 (MQ below (zQc D cid kv N0 xs Ls ρ0 r0 hF) args s (nF - n0) (zE - z0) (zA N0)) ρ0 n0 z0 nF zE Qq (zCall d) pc (zTab 807 pc) := zc_tab [zt807_0] (zc_cons (sd807_0 F IH hQ hn hz hlocks hr) zc_end)
theorem dX8_one_0 : decode cX8_one 0 = .ok (.aload_n 0, 1) := by decide +kernel
theorem dX8_one_1 : decode cX8_one 1 = .ok (.getfield 15, 3) := by decide +kernel
theorem dX8_one_4 : decode cX8_one 4 = .ok (.bipush 10, 2) := by decide +kernel
theorem dX8_one_6 : decode cX8_one 6 = .ok (.iload_n 1, 1) := by decide +kernel
theorem dX8_one_7 : decode cX8_one 7 = .ok (.imul, 1) := by decide +kernel
theorem dX8_one_8 : decode cX8_one 8 = .ok (.iload_n 2, 1) := by decide +kernel
theorem dX8_one_9 : decode cX8_one 9 = .ok (.iadd, 1) := by decide +kernel
theorem dX8_one_10 : decode cX8_one 10 = .ok (.iaload, 1) := by decide +kernel
theorem dX8_one_11 : decode cX8_one 11 = .ok (.ireturn, 1) := by decide +kernel
theorem sd808_0 (F : zFx p l R s m args meth c D cid kv N0 xs Ls RX8 cX8_one 3 n0 z0 nF zE d) (IH : zAllM l D cid kv N0 xs Ls d) (hQ : ∀ v h, Qq v h → v = r0 ∧ h = hF) (hn : nF = zN hF) (hz : zE = zZ hF) (hlocks : meth.locks = false) (hr : meth.sig.returnType = (some .int)) : zSoL p l e R s m args below meth c D cid kv N0 xs Ls 3 (MQ below (zQc D cid kv N0 xs Ls ρ0 r0 hF) args s (nF - n0) (zE - z0) (zA N0)) ρ0 n0 z0 nF zE Qq (zCall d) zt808_0 := zc_so (si_aload_n F dX8_one_0 rfl)
  (zc_so (si_getR (k := 0) F rfl inT8 (by decide) (by decide) rfl rfl tb_704 dX8_one_1)
  (zc_so (si_bipush F dX8_one_4 rfl)
  (zc_so (si_iload_n F dX8_one_6 rfl)
  (zc_so (si_imul F dX8_one_7)
  (zc_so (si_iload_n F dX8_one_8 rfl)
  (zc_so (si_iadd F dX8_one_9)
  (zc_so (si_iaload F dX8_one_10)
  (zc_so (si_rI F hQ hn hz hlocks hr (fun _ _ => rfl) dX8_one_11)
  (zc_nil)))))))))
theorem sd808 (F : zFx p l R s m args meth c D cid kv N0 xs Ls RX8 cX8_one 3 n0 z0 nF zE d) (IH : zAllM l D cid kv N0 xs Ls d) (hQ : ∀ v h, Qq v h → v = r0 ∧ h = hF) (hn : nF = zN hF) (hz : zE = zZ hF) (hlocks : meth.locks = false) (hr : meth.sig.returnType = (some .int)) (pc : Nat) : zSo p l e R s m args below meth c D cid kv N0 xs Ls 3 (MQ below (zQc D cid kv N0 xs Ls ρ0 r0 hF) args s (nF - n0) (zE - z0) (zA N0)) ρ0 n0 z0 nF zE Qq (zCall d) pc (zTab 808 pc) := zc_tab [zt808_0] (zc_cons (sd808_0 F IH hQ hn hz hlocks hr) zc_end)
theorem dX8_change_0 : decode cX8_change 0 = .ok (.aload_n 0, 1) := by decide +kernel
theorem dX8_change_1 : decode cX8_change 1 = .ok (.iload_n 1, 1) := by decide +kernel
theorem dX8_change_2 : decode cX8_change 2 = .ok (.iload_n 2, 1) := by decide +kernel
theorem dX8_change_3 : decode cX8_change 3 = .ok (.invokevirtual 88, 3) := by decide +kernel
theorem dX8_change_6 : decode cX8_change 6 = .ok (.istore 4, 2) := by decide +kernel
theorem dX8_change_8 : decode cX8_change 8 = .ok (.aload_n 0, 1) := by decide +kernel
theorem dX8_change_9 : decode cX8_change 9 = .ok (.getfield 15, 3) := by decide +kernel
theorem dX8_change_12 : decode cX8_change 12 = .ok (.bipush 10, 2) := by decide +kernel
theorem dX8_change_14 : decode cX8_change 14 = .ok (.iload_n 1, 1) := by decide +kernel
theorem dX8_change_15 : decode cX8_change 15 = .ok (.imul, 1) := by decide +kernel
theorem dX8_change_16 : decode cX8_change 16 = .ok (.iload_n 2, 1) := by decide +kernel
theorem dX8_change_17 : decode cX8_change 17 = .ok (.iadd, 1) := by decide +kernel
theorem dX8_change_18 : decode cX8_change 18 = .ok (.iload_n 3, 1) := by decide +kernel
theorem dX8_change_19 : decode cX8_change 19 = .ok (.iastore, 1) := by decide +kernel
theorem dX8_change_20 : decode cX8_change 20 = .ok (.iload 4, 2) := by decide +kernel
theorem dX8_change_22 : decode cX8_change 22 = .ok (.ireturn, 1) := by decide +kernel
theorem sd809_0 (F : zFx p l R s m args meth c D cid kv N0 xs Ls RX8 cX8_change 5 n0 z0 nF zE d) (IH : zAllM l D cid kv N0 xs Ls d) (hQ : ∀ v h, Qq v h → v = r0 ∧ h = hF) (hn : nF = zN hF) (hz : zE = zZ hF) (hlocks : meth.locks = false) (hr : meth.sig.returnType = (some .int)) : zSoL p l e R s m args below meth c D cid kv N0 xs Ls 5 (MQ below (zQc D cid kv N0 xs Ls ρ0 r0 hF) args s (nF - n0) (zE - z0) (zA N0)) ρ0 n0 z0 nF zE Qq (zCall d) zt809_0 := zc_so (si_aload_n F dX8_change_0 rfl)
  (zc_so (si_iload_n F dX8_change_1 rfl)
  (zc_so (si_iload_n F dX8_change_2 rfl)
  (zc_so (si_cV F (IH 808 mm808) mp808 (by decide) rfl rfl (by decide) tb_819 mi808 ms808 mn808 mc808 dX8_change_3)
  (zc_so (si_istore F dX8_change_6)
  (zc_so (si_aload_n F dX8_change_8 rfl)
  (zc_so (si_getR (k := 0) F rfl inT8 (by decide) (by decide) rfl rfl tb_704 dX8_change_9)
  (zc_so (si_bipush F dX8_change_12 rfl)
  (zc_so (si_iload_n F dX8_change_14 rfl)
  (zc_so (si_imul F dX8_change_15)
  (zc_so (si_iload_n F dX8_change_16 rfl)
  (zc_so (si_iadd F dX8_change_17)
  (zc_so (si_iload_n F dX8_change_18 rfl)
  (zc_so (si_iastore F dX8_change_19)
  (zc_so (si_iload F dX8_change_20)
  (zc_so (si_rI F hQ hn hz hlocks hr (fun _ _ => rfl) dX8_change_22)
  (zc_nil))))))))))))))))
theorem sd809 (F : zFx p l R s m args meth c D cid kv N0 xs Ls RX8 cX8_change 5 n0 z0 nF zE d) (IH : zAllM l D cid kv N0 xs Ls d) (hQ : ∀ v h, Qq v h → v = r0 ∧ h = hF) (hn : nF = zN hF) (hz : zE = zZ hF) (hlocks : meth.locks = false) (hr : meth.sig.returnType = (some .int)) (pc : Nat) : zSo p l e R s m args below meth c D cid kv N0 xs Ls 5 (MQ below (zQc D cid kv N0 xs Ls ρ0 r0 hF) args s (nF - n0) (zE - z0) (zA N0)) ρ0 n0 z0 nF zE Qq (zCall d) pc (zTab 809 pc) := zc_tab [zt809_0] (zc_cons (sd809_0 F IH hQ hn hz hlocks hr) zc_end)
theorem dX8_traveller_0 : decode cX8_traveller 0 = .ok (.iload_n 1, 1) := by decide +kernel
theorem dX8_traveller_1 : decode cX8_traveller 1 = .ok (.iconst 0, 1) := by decide +kernel
theorem dX8_traveller_2 : decode cX8_traveller 2 = .ok (.bipush 6, 2) := by decide +kernel
theorem dX8_traveller_4 : decode cX8_traveller 4 = .ok (.invokestatic 84, 3) := by decide +kernel
theorem dX8_traveller_7 : decode cX8_traveller 7 = .ok (.ifCond .eq 14, 3) := by decide +kernel
theorem dX8_traveller_10 : decode cX8_traveller 10 = .ok (.iload 4, 2) := by decide +kernel
theorem dX8_traveller_12 : decode cX8_traveller 12 = .ok (.iconst 0, 1) := by decide +kernel
theorem dX8_traveller_13 : decode cX8_traveller 13 = .ok (.bipush 10, 2) := by decide +kernel
theorem dX8_traveller_15 : decode cX8_traveller 15 = .ok (.invokestatic 84, 3) := by decide +kernel
theorem dX8_traveller_18 : decode cX8_traveller 18 = .ok (.ifCond .ne 5, 3) := by decide +kernel
theorem dX8_traveller_21 : decode cX8_traveller 21 = .ok (.iconst (-1), 1) := by decide +kernel
theorem dX8_traveller_22 : decode cX8_traveller 22 = .ok (.ireturn, 1) := by decide +kernel
theorem dX8_traveller_23 : decode cX8_traveller 23 = .ok (.iload_n 2, 1) := by decide +kernel
theorem dX8_traveller_24 : decode cX8_traveller 24 = .ok (.iconst 0, 1) := by decide +kernel
theorem dX8_traveller_25 : decode cX8_traveller 25 = .ok (.bipush 9, 2) := by decide +kernel
theorem dX8_traveller_27 : decode cX8_traveller 27 = .ok (.invokestatic 84, 3) := by decide +kernel
theorem dX8_traveller_30 : decode cX8_traveller 30 = .ok (.ifCond .eq 13, 3) := by decide +kernel
theorem dX8_traveller_33 : decode cX8_traveller 33 = .ok (.iload_n 3, 1) := by decide +kernel
theorem dX8_traveller_34 : decode cX8_traveller 34 = .ok (.iconst 0, 1) := by decide +kernel
theorem dX8_traveller_35 : decode cX8_traveller 35 = .ok (.bipush 99, 2) := by decide +kernel
theorem dX8_traveller_37 : decode cX8_traveller 37 = .ok (.invokestatic 84, 3) := by decide +kernel
theorem dX8_traveller_40 : decode cX8_traveller 40 = .ok (.ifCond .ne 6, 3) := by decide +kernel
theorem dX8_traveller_43 : decode cX8_traveller 43 = .ok (.bipush (-2), 2) := by decide +kernel
theorem dX8_traveller_45 : decode cX8_traveller 45 = .ok (.ireturn, 1) := by decide +kernel
theorem dX8_traveller_46 : decode cX8_traveller 46 = .ok (.aload_n 0, 1) := by decide +kernel
theorem dX8_traveller_47 : decode cX8_traveller 47 = .ok (.getfield 15, 3) := by decide +kernel
theorem dX8_traveller_50 : decode cX8_traveller 50 = .ok (.bipush 60, 2) := by decide +kernel
theorem dX8_traveller_52 : decode cX8_traveller 52 = .ok (.iaload, 1) := by decide +kernel
theorem dX8_traveller_53 : decode cX8_traveller 53 = .ok (.istore 5, 2) := by decide +kernel
theorem dX8_traveller_55 : decode cX8_traveller 55 = .ok (.iload 5, 2) := by decide +kernel
theorem dX8_traveller_57 : decode cX8_traveller 57 = .ok (.bipush 6, 2) := by decide +kernel
theorem dX8_traveller_59 : decode cX8_traveller 59 = .ok (.if_icmp .ne 6, 3) := by decide +kernel
theorem dX8_traveller_62 : decode cX8_traveller 62 = .ok (.bipush (-4), 2) := by decide +kernel
theorem dX8_traveller_64 : decode cX8_traveller 64 = .ok (.ireturn, 1) := by decide +kernel
theorem dX8_traveller_65 : decode cX8_traveller 65 = .ok (.iconst 0, 1) := by decide +kernel
theorem dX8_traveller_66 : decode cX8_traveller 66 = .ok (.istore 6, 2) := by decide +kernel
theorem dX8_traveller_68 : decode cX8_traveller 68 = .ok (.iload 6, 2) := by decide +kernel
theorem dX8_traveller_70 : decode cX8_traveller 70 = .ok (.bipush 10, 2) := by decide +kernel
theorem dX8_traveller_72 : decode cX8_traveller 72 = .ok (.if_icmp .ge 23, 3) := by decide +kernel
theorem dX8_traveller_75 : decode cX8_traveller 75 = .ok (.aload_n 0, 1) := by decide +kernel
theorem dX8_traveller_76 : decode cX8_traveller 76 = .ok (.getfield 15, 3) := by decide +kernel
theorem dX8_traveller_79 : decode cX8_traveller 79 = .ok (.bipush 10, 2) := by decide +kernel
theorem dX8_traveller_81 : decode cX8_traveller 81 = .ok (.iload 5, 2) := by decide +kernel
theorem dX8_traveller_83 : decode cX8_traveller 83 = .ok (.imul, 1) := by decide +kernel
theorem dX8_traveller_84 : decode cX8_traveller 84 = .ok (.iload 6, 2) := by decide +kernel
theorem dX8_traveller_86 : decode cX8_traveller 86 = .ok (.iadd, 1) := by decide +kernel
theorem dX8_traveller_87 : decode cX8_traveller 87 = .ok (.iconst 0, 1) := by decide +kernel
theorem dX8_traveller_88 : decode cX8_traveller 88 = .ok (.iastore, 1) := by decide +kernel
theorem dX8_traveller_89 : decode cX8_traveller 89 = .ok (.iinc 6 1, 3) := by decide +kernel
theorem dX8_traveller_92 : decode cX8_traveller 92 = .ok (.goto (-24), 3) := by decide +kernel
theorem dX8_traveller_95 : decode cX8_traveller 95 = .ok (.aload_n 0, 1) := by decide +kernel
theorem dX8_traveller_96 : decode cX8_traveller 96 = .ok (.getfield 15, 3) := by decide +kernel
theorem dX8_traveller_99 : decode cX8_traveller 99 = .ok (.bipush 10, 2) := by decide +kernel
theorem dX8_traveller_101 : decode cX8_traveller 101 = .ok (.iload 5, 2) := by decide +kernel
theorem dX8_traveller_103 : decode cX8_traveller 103 = .ok (.imul, 1) := by decide +kernel
theorem dX8_traveller_104 : decode cX8_traveller 104 = .ok (.iload_n 1, 1) := by decide +kernel
theorem dX8_traveller_105 : decode cX8_traveller 105 = .ok (.iastore, 1) := by decide +kernel
theorem dX8_traveller_106 : decode cX8_traveller 106 = .ok (.aload_n 0, 1) := by decide +kernel
theorem dX8_traveller_107 : decode cX8_traveller 107 = .ok (.getfield 15, 3) := by decide +kernel
theorem dX8_traveller_110 : decode cX8_traveller 110 = .ok (.bipush 10, 2) := by decide +kernel
theorem dX8_traveller_112 : decode cX8_traveller 112 = .ok (.iload 5, 2) := by decide +kernel
theorem dX8_traveller_114 : decode cX8_traveller 114 = .ok (.imul, 1) := by decide +kernel
theorem dX8_traveller_115 : decode cX8_traveller 115 = .ok (.iconst 1, 1) := by decide +kernel
theorem dX8_traveller_116 : decode cX8_traveller 116 = .ok (.iadd, 1) := by decide +kernel
theorem dX8_traveller_117 : decode cX8_traveller 117 = .ok (.iload_n 2, 1) := by decide +kernel
theorem dX8_traveller_118 : decode cX8_traveller 118 = .ok (.iastore, 1) := by decide +kernel
theorem dX8_traveller_119 : decode cX8_traveller 119 = .ok (.aload_n 0, 1) := by decide +kernel
theorem dX8_traveller_120 : decode cX8_traveller 120 = .ok (.getfield 15, 3) := by decide +kernel
theorem dX8_traveller_123 : decode cX8_traveller 123 = .ok (.bipush 10, 2) := by decide +kernel
theorem dX8_traveller_125 : decode cX8_traveller 125 = .ok (.iload 5, 2) := by decide +kernel
theorem dX8_traveller_127 : decode cX8_traveller 127 = .ok (.imul, 1) := by decide +kernel
theorem dX8_traveller_128 : decode cX8_traveller 128 = .ok (.iconst 2, 1) := by decide +kernel
theorem dX8_traveller_129 : decode cX8_traveller 129 = .ok (.iadd, 1) := by decide +kernel
theorem dX8_traveller_130 : decode cX8_traveller 130 = .ok (.iload_n 3, 1) := by decide +kernel
theorem dX8_traveller_131 : decode cX8_traveller 131 = .ok (.iastore, 1) := by decide +kernel
theorem dX8_traveller_132 : decode cX8_traveller 132 = .ok (.aload_n 0, 1) := by decide +kernel
theorem dX8_traveller_133 : decode cX8_traveller 133 = .ok (.getfield 15, 3) := by decide +kernel
theorem dX8_traveller_136 : decode cX8_traveller 136 = .ok (.bipush 10, 2) := by decide +kernel
theorem dX8_traveller_138 : decode cX8_traveller 138 = .ok (.iload 5, 2) := by decide +kernel
theorem dX8_traveller_140 : decode cX8_traveller 140 = .ok (.imul, 1) := by decide +kernel
theorem dX8_traveller_141 : decode cX8_traveller 141 = .ok (.iconst 3, 1) := by decide +kernel
theorem dX8_traveller_142 : decode cX8_traveller 142 = .ok (.iadd, 1) := by decide +kernel
theorem dX8_traveller_143 : decode cX8_traveller 143 = .ok (.iload 4, 2) := by decide +kernel
theorem dX8_traveller_145 : decode cX8_traveller 145 = .ok (.iastore, 1) := by decide +kernel
theorem dX8_traveller_146 : decode cX8_traveller 146 = .ok (.aload_n 0, 1) := by decide +kernel
theorem dX8_traveller_147 : decode cX8_traveller 147 = .ok (.getfield 15, 3) := by decide +kernel
theorem dX8_traveller_150 : decode cX8_traveller 150 = .ok (.bipush 60, 2) := by decide +kernel
theorem dX8_traveller_152 : decode cX8_traveller 152 = .ok (.dup2, 1) := by decide +kernel
theorem dX8_traveller_153 : decode cX8_traveller 153 = .ok (.iaload, 1) := by decide +kernel
theorem dX8_traveller_154 : decode cX8_traveller 154 = .ok (.iconst 1, 1) := by decide +kernel
theorem dX8_traveller_155 : decode cX8_traveller 155 = .ok (.iadd, 1) := by decide +kernel
theorem dX8_traveller_156 : decode cX8_traveller 156 = .ok (.iastore, 1) := by decide +kernel
theorem dX8_traveller_157 : decode cX8_traveller 157 = .ok (.iload 5, 2) := by decide +kernel
theorem dX8_traveller_159 : decode cX8_traveller 159 = .ok (.ireturn, 1) := by decide +kernel
theorem sd810_0 (F : zFx p l R s m args meth c D cid kv N0 xs Ls RX8 cX8_traveller 7 n0 z0 nF zE d) (IH : zAllM l D cid kv N0 xs Ls d) (hQ : ∀ v h, Qq v h → v = r0 ∧ h = hF) (hn : nF = zN hF) (hz : zE = zZ hF) (hlocks : meth.locks = false) (hr : meth.sig.returnType = (some .int)) : zSoL p l e R s m args below meth c D cid kv N0 xs Ls 7 (MQ below (zQc D cid kv N0 xs Ls ρ0 r0 hF) args s (nF - n0) (zE - z0) (zA N0)) ρ0 n0 z0 nF zE Qq (zCall d) zt810_0 := zc_so (si_iload_n F dX8_traveller_0 rfl)
  (zc_so (si_iconst F dX8_traveller_1 rfl)
  (zc_so (si_bipush F dX8_traveller_2 rfl)
  (zc_so (si_cS  F (IH 802 mm802) mp802 (by decide) tb_808 mi802 mn802 mc802 dX8_traveller_4)
  (zc_so (si_ifeq F dX8_traveller_7 rfl)
  (zc_so (si_iload F dX8_traveller_10)
  (zc_so (si_iconst F dX8_traveller_12 rfl)
  (zc_so (si_bipush F dX8_traveller_13 rfl)
  (zc_so (si_cS  F (IH 802 mm802) mp802 (by decide) tb_808 mi802 mn802 mc802 dX8_traveller_15)
  (zc_so (si_ifne F dX8_traveller_18 rfl)
  (zc_so (si_iconst F dX8_traveller_21 rfl)
  (zc_so (si_rI F hQ hn hz hlocks hr (fun _ _ => rfl) dX8_traveller_22)
  (zc_so (si_iload_n F dX8_traveller_23 rfl)
  (zc_so (si_iconst F dX8_traveller_24 rfl)
  (zc_so (si_bipush F dX8_traveller_25 rfl)
  (zc_so (si_cS  F (IH 802 mm802) mp802 (by decide) tb_808 mi802 mn802 mc802 dX8_traveller_27)
  (zc_so (si_ifeq F dX8_traveller_30 rfl)
  (zc_so (si_iload_n F dX8_traveller_33 rfl)
  (zc_so (si_iconst F dX8_traveller_34 rfl)
  (zc_so (si_bipush F dX8_traveller_35 rfl)
  (zc_so (si_cS  F (IH 802 mm802) mp802 (by decide) tb_808 mi802 mn802 mc802 dX8_traveller_37)
  (zc_so (si_ifne F dX8_traveller_40 rfl)
  (zc_so (si_bipush F dX8_traveller_43 rfl)
  (zc_so (si_rI F hQ hn hz hlocks hr (fun _ _ => rfl) dX8_traveller_45)
  (zc_so (si_aload_n F dX8_traveller_46 rfl)
  (zc_so (si_getR (k := 0) F rfl inT8 (by decide) (by decide) rfl rfl tb_704 dX8_traveller_47)
  (zc_so (si_bipush F dX8_traveller_50 rfl)
  (zc_so (si_iaload F dX8_traveller_52)
  (zc_so (si_istore F dX8_traveller_53)
  (zc_so (si_iload F dX8_traveller_55)
  (zc_so (si_bipush F dX8_traveller_57 rfl)
  (zc_so (si_icne F dX8_traveller_59 rfl)
  (zc_so (si_bipush F dX8_traveller_62 rfl)
  (zc_nil)))))))))))))))))))))))))))))))))
theorem sd810_1 (F : zFx p l R s m args meth c D cid kv N0 xs Ls RX8 cX8_traveller 7 n0 z0 nF zE d) (IH : zAllM l D cid kv N0 xs Ls d) (hQ : ∀ v h, Qq v h → v = r0 ∧ h = hF) (hn : nF = zN hF) (hz : zE = zZ hF) (hlocks : meth.locks = false) (hr : meth.sig.returnType = (some .int)) : zSoL p l e R s m args below meth c D cid kv N0 xs Ls 7 (MQ below (zQc D cid kv N0 xs Ls ρ0 r0 hF) args s (nF - n0) (zE - z0) (zA N0)) ρ0 n0 z0 nF zE Qq (zCall d) zt810_1 := zc_so (si_rI F hQ hn hz hlocks hr (fun _ _ => rfl) dX8_traveller_64)
  (zc_so (si_iconst F dX8_traveller_65 rfl)
  (zc_so (si_istore F dX8_traveller_66)
  (zc_so (si_iload F dX8_traveller_68)
  (zc_so (si_bipush F dX8_traveller_70 rfl)
  (zc_so (si_icge F dX8_traveller_72 rfl)
  (zc_so (si_aload_n F dX8_traveller_75 rfl)
  (zc_so (si_getR (k := 0) F rfl inT8 (by decide) (by decide) rfl rfl tb_704 dX8_traveller_76)
  (zc_so (si_bipush F dX8_traveller_79 rfl)
  (zc_so (si_iload F dX8_traveller_81)
  (zc_so (si_imul F dX8_traveller_83)
  (zc_so (si_iload F dX8_traveller_84)
  (zc_so (si_iadd F dX8_traveller_86)
  (zc_so (si_iconst F dX8_traveller_87 rfl)
  (zc_so (si_iastore F dX8_traveller_88)
  (zc_so (si_iinc F dX8_traveller_89 rfl)
  (zc_so (si_goto F dX8_traveller_92 rfl)
  (zc_so (si_aload_n F dX8_traveller_95 rfl)
  (zc_so (si_getR (k := 0) F rfl inT8 (by decide) (by decide) rfl rfl tb_704 dX8_traveller_96)
  (zc_so (si_bipush F dX8_traveller_99 rfl)
  (zc_so (si_iload F dX8_traveller_101)
  (zc_so (si_imul F dX8_traveller_103)
  (zc_so (si_iload_n F dX8_traveller_104 rfl)
  (zc_so (si_iastore F dX8_traveller_105)
  (zc_so (si_aload_n F dX8_traveller_106 rfl)
  (zc_so (si_getR (k := 0) F rfl inT8 (by decide) (by decide) rfl rfl tb_704 dX8_traveller_107)
  (zc_so (si_bipush F dX8_traveller_110 rfl)
  (zc_so (si_iload F dX8_traveller_112)
  (zc_so (si_imul F dX8_traveller_114)
  (zc_so (si_iconst F dX8_traveller_115 rfl)
  (zc_so (si_iadd F dX8_traveller_116)
  (zc_so (si_iload_n F dX8_traveller_117 rfl)
  (zc_so (si_iastore F dX8_traveller_118)
  (zc_so (si_aload_n F dX8_traveller_119 rfl)
  (zc_so (si_getR (k := 0) F rfl inT8 (by decide) (by decide) rfl rfl tb_704 dX8_traveller_120)
  (zc_so (si_bipush F dX8_traveller_123 rfl)
  (zc_so (si_iload F dX8_traveller_125)
  (zc_so (si_imul F dX8_traveller_127)
  (zc_nil))))))))))))))))))))))))))))))))))))))
theorem sd810_2 (F : zFx p l R s m args meth c D cid kv N0 xs Ls RX8 cX8_traveller 7 n0 z0 nF zE d) (IH : zAllM l D cid kv N0 xs Ls d) (hQ : ∀ v h, Qq v h → v = r0 ∧ h = hF) (hn : nF = zN hF) (hz : zE = zZ hF) (hlocks : meth.locks = false) (hr : meth.sig.returnType = (some .int)) : zSoL p l e R s m args below meth c D cid kv N0 xs Ls 7 (MQ below (zQc D cid kv N0 xs Ls ρ0 r0 hF) args s (nF - n0) (zE - z0) (zA N0)) ρ0 n0 z0 nF zE Qq (zCall d) zt810_2 := zc_so (si_iconst F dX8_traveller_128 rfl)
  (zc_so (si_iadd F dX8_traveller_129)
  (zc_so (si_iload_n F dX8_traveller_130 rfl)
  (zc_so (si_iastore F dX8_traveller_131)
  (zc_so (si_aload_n F dX8_traveller_132 rfl)
  (zc_so (si_getR (k := 0) F rfl inT8 (by decide) (by decide) rfl rfl tb_704 dX8_traveller_133)
  (zc_so (si_bipush F dX8_traveller_136 rfl)
  (zc_so (si_iload F dX8_traveller_138)
  (zc_so (si_imul F dX8_traveller_140)
  (zc_so (si_iconst F dX8_traveller_141 rfl)
  (zc_so (si_iadd F dX8_traveller_142)
  (zc_so (si_iload F dX8_traveller_143)
  (zc_so (si_iastore F dX8_traveller_145)
  (zc_so (si_aload_n F dX8_traveller_146 rfl)
  (zc_so (si_getR (k := 0) F rfl inT8 (by decide) (by decide) rfl rfl tb_704 dX8_traveller_147)
  (zc_so (si_bipush F dX8_traveller_150 rfl)
  (zc_so (si_dup2 F dX8_traveller_152)
  (zc_so (si_iaload F dX8_traveller_153)
  (zc_so (si_iconst F dX8_traveller_154 rfl)
  (zc_so (si_iadd F dX8_traveller_155)
  (zc_so (si_iastore F dX8_traveller_156)
  (zc_so (si_iload F dX8_traveller_157)
  (zc_so (si_rI F hQ hn hz hlocks hr (fun _ _ => rfl) dX8_traveller_159)
  (zc_nil)))))))))))))))))))))))
theorem sd810 (F : zFx p l R s m args meth c D cid kv N0 xs Ls RX8 cX8_traveller 7 n0 z0 nF zE d) (IH : zAllM l D cid kv N0 xs Ls d) (hQ : ∀ v h, Qq v h → v = r0 ∧ h = hF) (hn : nF = zN hF) (hz : zE = zZ hF) (hlocks : meth.locks = false) (hr : meth.sig.returnType = (some .int)) (pc : Nat) : zSo p l e R s m args below meth c D cid kv N0 xs Ls 7 (MQ below (zQc D cid kv N0 xs Ls ρ0 r0 hF) args s (nF - n0) (zE - z0) (zA N0)) ρ0 n0 z0 nF zE Qq (zCall d) pc (zTab 810 pc) := zc_tab [zt810_0, zt810_1, zt810_2] (zc_cons (sd810_0 F IH hQ hn hz hlocks hr) (zc_cons (sd810_1 F IH hQ hn hz hlocks hr) (zc_cons (sd810_2 F IH hQ hn hz hlocks hr) zc_end)))
theorem dX8_of_0 : decode cX8_of 0 = .ok (.aload_n 0, 1) := by decide +kernel
theorem dX8_of_1 : decode cX8_of 1 = .ok (.iload_n 1, 1) := by decide +kernel
theorem dX8_of_2 : decode cX8_of 2 = .ok (.invokevirtual 92, 3) := by decide +kernel
theorem dX8_of_5 : decode cX8_of 5 = .ok (.ifCond .ne 7, 3) := by decide +kernel
theorem dX8_of_8 : decode cX8_of 8 = .ok (.sipush (-10001), 3) := by decide +kernel
theorem dX8_of_11 : decode cX8_of 11 = .ok (.ireturn, 1) := by decide +kernel
theorem dX8_of_12 : decode cX8_of 12 = .ok (.iload_n 2, 1) := by decide +kernel
theorem dX8_of_13 : decode cX8_of 13 = .ok (.iconst 0, 1) := by decide +kernel
theorem dX8_of_14 : decode cX8_of 14 = .ok (.iconst 5, 1) := by decide +kernel
theorem dX8_of_15 : decode cX8_of 15 = .ok (.invokestatic 84, 3) := by decide +kernel
theorem dX8_of_18 : decode cX8_of 18 = .ok (.ifCond .eq 12, 3) := by decide +kernel
theorem dX8_of_21 : decode cX8_of 21 = .ok (.aload_n 0, 1) := by decide +kernel
theorem dX8_of_22 : decode cX8_of 22 = .ok (.iload_n 1, 1) := by decide +kernel
theorem dX8_of_23 : decode cX8_of 23 = .ok (.iload_n 2, 1) := by decide +kernel
theorem dX8_of_24 : decode cX8_of 24 = .ok (.invokevirtual 88, 3) := by decide +kernel
theorem dX8_of_27 : decode cX8_of 27 = .ok (.goto 34, 3) := by decide +kernel
theorem dX8_of_30 : decode cX8_of 30 = .ok (.iload_n 2, 1) := by decide +kernel
theorem dX8_of_31 : decode cX8_of 31 = .ok (.bipush 6, 2) := by decide +kernel
theorem dX8_of_33 : decode cX8_of 33 = .ok (.if_icmp .ne 11, 3) := by decide +kernel
theorem dX8_of_36 : decode cX8_of 36 = .ok (.aload_n 0, 1) := by decide +kernel
theorem dX8_of_37 : decode cX8_of 37 = .ok (.iload_n 1, 1) := by decide +kernel
theorem dX8_of_38 : decode cX8_of 38 = .ok (.invokevirtual 96, 3) := by decide +kernel
theorem dX8_of_41 : decode cX8_of 41 = .ok (.goto 20, 3) := by decide +kernel
theorem dX8_of_44 : decode cX8_of 44 = .ok (.iload_n 2, 1) := by decide +kernel
theorem dX8_of_45 : decode cX8_of 45 = .ok (.bipush 7, 2) := by decide +kernel
theorem dX8_of_47 : decode cX8_of 47 = .ok (.if_icmp .ne 11, 3) := by decide +kernel
theorem dX8_of_50 : decode cX8_of 50 = .ok (.aload_n 0, 1) := by decide +kernel
theorem dX8_of_51 : decode cX8_of 51 = .ok (.iload_n 1, 1) := by decide +kernel
theorem dX8_of_52 : decode cX8_of 52 = .ok (.invokevirtual 100, 3) := by decide +kernel
theorem dX8_of_55 : decode cX8_of 55 = .ok (.goto 6, 3) := by decide +kernel
theorem dX8_of_58 : decode cX8_of 58 = .ok (.sipush (-10001), 3) := by decide +kernel
theorem dX8_of_61 : decode cX8_of 61 = .ok (.ireturn, 1) := by decide +kernel
theorem sd811_0 (F : zFx p l R s m args meth c D cid kv N0 xs Ls RX8 cX8_of 3 n0 z0 nF zE d) (IH : zAllM l D cid kv N0 xs Ls d) (hQ : ∀ v h, Qq v h → v = r0 ∧ h = hF) (hn : nF = zN hF) (hz : zE = zZ hF) (hlocks : meth.locks = false) (hr : meth.sig.returnType = (some .int)) : zSoL p l e R s m args below meth c D cid kv N0 xs Ls 3 (MQ below (zQc D cid kv N0 xs Ls ρ0 r0 hF) args s (nF - n0) (zE - z0) (zA N0)) ρ0 n0 z0 nF zE Qq (zCall d) zt811_0 := zc_so (si_aload_n F dX8_of_0 rfl)
  (zc_so (si_iload_n F dX8_of_1 rfl)
  (zc_so (si_cV F (IH 807 mm807) mp807 (by decide) rfl rfl (by decide) tb_815 mi807 ms807 mn807 mc807 dX8_of_2)
  (zc_so (si_ifne F dX8_of_5 rfl)
  (zc_so (si_sipush F dX8_of_8 rfl)
  (zc_so (si_rI F hQ hn hz hlocks hr (fun _ _ => rfl) dX8_of_11)
  (zc_so (si_iload_n F dX8_of_12 rfl)
  (zc_so (si_iconst F dX8_of_13 rfl)
  (zc_so (si_iconst F dX8_of_14 rfl)
  (zc_so (si_cS  F (IH 802 mm802) mp802 (by decide) tb_808 mi802 mn802 mc802 dX8_of_15)
  (zc_so (si_ifeq F dX8_of_18 rfl)
  (zc_so (si_aload_n F dX8_of_21 rfl)
  (zc_so (si_iload_n F dX8_of_22 rfl)
  (zc_so (si_iload_n F dX8_of_23 rfl)
  (zc_so (si_cV F (IH 808 mm808) mp808 (by decide) rfl rfl (by decide) tb_819 mi808 ms808 mn808 mc808 dX8_of_24)
  (zc_so (si_goto F dX8_of_27 rfl)
  (zc_so (si_iload_n F dX8_of_30 rfl)
  (zc_so (si_bipush F dX8_of_31 rfl)
  (zc_so (si_icne F dX8_of_33 rfl)
  (zc_so (si_aload_n F dX8_of_36 rfl)
  (zc_so (si_iload_n F dX8_of_37 rfl)
  (zc_so (si_cV F (IH 831 mm831) mp831 (by decide) rfl rfl (by decide) tb_823 mi831 ms831 mn831 mc831 dX8_of_38)
  (zc_so (si_goto F dX8_of_41 rfl)
  (zc_so (si_iload_n F dX8_of_44 rfl)
  (zc_so (si_bipush F dX8_of_45 rfl)
  (zc_so (si_icne F dX8_of_47 rfl)
  (zc_so (si_aload_n F dX8_of_50 rfl)
  (zc_so (si_iload_n F dX8_of_51 rfl)
  (zc_so (si_cV F (IH 837 mm837) mp837 (by decide) rfl rfl (by decide) tb_876 mi837 ms837 mn837 mc837 dX8_of_52)
  (zc_so (si_goto F dX8_of_55 rfl)
  (zc_so (si_sipush F dX8_of_58 rfl)
  (zc_so (si_rI F hQ hn hz hlocks hr (fun _ _ => rfl) dX8_of_61)
  (zc_nil))))))))))))))))))))))))))))))))
theorem sd811 (F : zFx p l R s m args meth c D cid kv N0 xs Ls RX8 cX8_of 3 n0 z0 nF zE d) (IH : zAllM l D cid kv N0 xs Ls d) (hQ : ∀ v h, Qq v h → v = r0 ∧ h = hF) (hn : nF = zN hF) (hz : zE = zZ hF) (hlocks : meth.locks = false) (hr : meth.sig.returnType = (some .int)) (pc : Nat) : zSo p l e R s m args below meth c D cid kv N0 xs Ls 3 (MQ below (zQc D cid kv N0 xs Ls ρ0 r0 hF) args s (nF - n0) (zE - z0) (zA N0)) ρ0 n0 z0 nF zE Qq (zCall d) pc (zTab 811 pc) := zc_tab [zt811_0] (zc_cons (sd811_0 F IH hQ hn hz hlocks hr) zc_end)
theorem dX8_set_0 : decode cX8_set 0 = .ok (.aload_n 0, 1) := by decide +kernel
theorem dX8_set_1 : decode cX8_set 1 = .ok (.iload_n 1, 1) := by decide +kernel
theorem dX8_set_2 : decode cX8_set 2 = .ok (.invokevirtual 92, 3) := by decide +kernel
theorem dX8_set_5 : decode cX8_set 5 = .ok (.ifCond .eq 12, 3) := by decide +kernel
theorem dX8_set_8 : decode cX8_set 8 = .ok (.iload_n 2, 1) := by decide +kernel
theorem dX8_set_9 : decode cX8_set 9 = .ok (.iconst 0, 1) := by decide +kernel
theorem dX8_set_10 : decode cX8_set 10 = .ok (.iconst 1, 1) := by decide +kernel
theorem dX8_set_11 : decode cX8_set 11 = .ok (.invokestatic 84, 3) := by decide +kernel
theorem dX8_set_14 : decode cX8_set 14 = .ok (.ifCond .ne 5, 3) := by decide +kernel
theorem dX8_set_17 : decode cX8_set 17 = .ok (.iconst (-1), 1) := by decide +kernel
theorem dX8_set_18 : decode cX8_set 18 = .ok (.ireturn, 1) := by decide +kernel
theorem dX8_set_19 : decode cX8_set 19 = .ok (.iload_n 3, 1) := by decide +kernel
theorem dX8_set_20 : decode cX8_set 20 = .ok (.iconst 0, 1) := by decide +kernel
theorem dX8_set_21 : decode cX8_set 21 = .ok (.iload_n 2, 1) := by decide +kernel
theorem dX8_set_22 : decode cX8_set 22 = .ok (.ifCond .ne 8, 3) := by decide +kernel
theorem dX8_set_25 : decode cX8_set 25 = .ok (.bipush 99, 2) := by decide +kernel
theorem dX8_set_27 : decode cX8_set 27 = .ok (.goto 5, 3) := by decide +kernel
theorem dX8_set_30 : decode cX8_set 30 = .ok (.bipush 10, 2) := by decide +kernel
theorem dX8_set_32 : decode cX8_set 32 = .ok (.invokestatic 84, 3) := by decide +kernel
theorem dX8_set_35 : decode cX8_set 35 = .ok (.ifCond .ne 6, 3) := by decide +kernel
theorem dX8_set_38 : decode cX8_set 38 = .ok (.bipush (-2), 2) := by decide +kernel
theorem dX8_set_40 : decode cX8_set 40 = .ok (.ireturn, 1) := by decide +kernel
theorem dX8_set_41 : decode cX8_set 41 = .ok (.iload_n 2, 1) := by decide +kernel
theorem dX8_set_42 : decode cX8_set 42 = .ok (.iconst 1, 1) := by decide +kernel
theorem dX8_set_43 : decode cX8_set 43 = .ok (.if_icmp .ne 11, 3) := by decide +kernel
theorem dX8_set_46 : decode cX8_set 46 = .ok (.aload_n 0, 1) := by decide +kernel
theorem dX8_set_47 : decode cX8_set 47 = .ok (.iload_n 1, 1) := by decide +kernel
theorem dX8_set_48 : decode cX8_set 48 = .ok (.iconst 4, 1) := by decide +kernel
theorem dX8_set_49 : decode cX8_set 49 = .ok (.iconst 0, 1) := by decide +kernel
theorem dX8_set_50 : decode cX8_set 50 = .ok (.invokevirtual 103, 3) := by decide +kernel
theorem dX8_set_53 : decode cX8_set 53 = .ok (.pop, 1) := by decide +kernel
theorem dX8_set_54 : decode cX8_set 54 = .ok (.aload_n 0, 1) := by decide +kernel
theorem dX8_set_55 : decode cX8_set 55 = .ok (.iload_n 1, 1) := by decide +kernel
theorem dX8_set_56 : decode cX8_set 56 = .ok (.iconst 2, 1) := by decide +kernel
theorem dX8_set_57 : decode cX8_set 57 = .ok (.iload_n 2, 1) := by decide +kernel
theorem dX8_set_58 : decode cX8_set 58 = .ok (.iadd, 1) := by decide +kernel
theorem dX8_set_59 : decode cX8_set 59 = .ok (.iload_n 3, 1) := by decide +kernel
theorem dX8_set_60 : decode cX8_set 60 = .ok (.invokevirtual 103, 3) := by decide +kernel
theorem dX8_set_63 : decode cX8_set 63 = .ok (.ireturn, 1) := by decide +kernel
theorem sd812_0 (F : zFx p l R s m args meth c D cid kv N0 xs Ls RX8 cX8_set 4 n0 z0 nF zE d) (IH : zAllM l D cid kv N0 xs Ls d) (hQ : ∀ v h, Qq v h → v = r0 ∧ h = hF) (hn : nF = zN hF) (hz : zE = zZ hF) (hlocks : meth.locks = false) (hr : meth.sig.returnType = (some .int)) : zSoL p l e R s m args below meth c D cid kv N0 xs Ls 4 (MQ below (zQc D cid kv N0 xs Ls ρ0 r0 hF) args s (nF - n0) (zE - z0) (zA N0)) ρ0 n0 z0 nF zE Qq (zCall d) zt812_0 := zc_so (si_aload_n F dX8_set_0 rfl)
  (zc_so (si_iload_n F dX8_set_1 rfl)
  (zc_so (si_cV F (IH 807 mm807) mp807 (by decide) rfl rfl (by decide) tb_815 mi807 ms807 mn807 mc807 dX8_set_2)
  (zc_so (si_ifeq F dX8_set_5 rfl)
  (zc_so (si_iload_n F dX8_set_8 rfl)
  (zc_so (si_iconst F dX8_set_9 rfl)
  (zc_so (si_iconst F dX8_set_10 rfl)
  (zc_so (si_cS  F (IH 802 mm802) mp802 (by decide) tb_808 mi802 mn802 mc802 dX8_set_11)
  (zc_so (si_ifne F dX8_set_14 rfl)
  (zc_so (si_iconst F dX8_set_17 rfl)
  (zc_so (si_rI F hQ hn hz hlocks hr (fun _ _ => rfl) dX8_set_18)
  (zc_so (si_iload_n F dX8_set_19 rfl)
  (zc_so (si_iconst F dX8_set_20 rfl)
  (zc_so (si_iload_n F dX8_set_21 rfl)
  (zc_so (si_ifne F dX8_set_22 rfl)
  (zc_so (si_bipush F dX8_set_25 rfl)
  (zc_so (si_goto F dX8_set_27 rfl)
  (zc_so (si_bipush F dX8_set_30 rfl)
  (zc_so (si_cS  F (IH 802 mm802) mp802 (by decide) tb_808 mi802 mn802 mc802 dX8_set_32)
  (zc_so (si_ifne F dX8_set_35 rfl)
  (zc_so (si_bipush F dX8_set_38 rfl)
  (zc_so (si_rI F hQ hn hz hlocks hr (fun _ _ => rfl) dX8_set_40)
  (zc_so (si_iload_n F dX8_set_41 rfl)
  (zc_so (si_iconst F dX8_set_42 rfl)
  (zc_so (si_icne F dX8_set_43 rfl)
  (zc_so (si_aload_n F dX8_set_46 rfl)
  (zc_so (si_iload_n F dX8_set_47 rfl)
  (zc_so (si_iconst F dX8_set_48 rfl)
  (zc_so (si_iconst F dX8_set_49 rfl)
  (zc_so (si_cV F (IH 809 mm809) mp809 (by decide) rfl rfl (by decide) tb_888 mi809 ms809 mn809 mc809 dX8_set_50)
  (zc_so (si_pop F dX8_set_53)
  (zc_so (si_aload_n F dX8_set_54 rfl)
  (zc_so (si_iload_n F dX8_set_55 rfl)
  (zc_so (si_iconst F dX8_set_56 rfl)
  (zc_so (si_iload_n F dX8_set_57 rfl)
  (zc_so (si_iadd F dX8_set_58)
  (zc_so (si_iload_n F dX8_set_59 rfl)
  (zc_so (si_cV F (IH 809 mm809) mp809 (by decide) rfl rfl (by decide) tb_888 mi809 ms809 mn809 mc809 dX8_set_60)
  (zc_so (si_rI F hQ hn hz hlocks hr (fun _ _ => rfl) dX8_set_63)
  (zc_nil)))))))))))))))))))))))))))))))))))))))
theorem sd812 (F : zFx p l R s m args meth c D cid kv N0 xs Ls RX8 cX8_set 4 n0 z0 nF zE d) (IH : zAllM l D cid kv N0 xs Ls d) (hQ : ∀ v h, Qq v h → v = r0 ∧ h = hF) (hn : nF = zN hF) (hz : zE = zZ hF) (hlocks : meth.locks = false) (hr : meth.sig.returnType = (some .int)) (pc : Nat) : zSo p l e R s m args below meth c D cid kv N0 xs Ls 4 (MQ below (zQc D cid kv N0 xs Ls ρ0 r0 hF) args s (nF - n0) (zE - z0) (zA N0)) ρ0 n0 z0 nF zE Qq (zCall d) pc (zTab 812 pc) := zc_tab [zt812_0] (zc_cons (sd812_0 F IH hQ hn hz hlocks hr) zc_end)
theorem dX8_isOnTheWay_0 : decode cX8_isOnTheWay 0 = .ok (.aload_n 0, 1) := by decide +kernel
theorem dX8_isOnTheWay_1 : decode cX8_isOnTheWay 1 = .ok (.iload_n 1, 1) := by decide +kernel
theorem dX8_isOnTheWay_2 : decode cX8_isOnTheWay 2 = .ok (.iconst 3, 1) := by decide +kernel
theorem dX8_isOnTheWay_3 : decode cX8_isOnTheWay 3 = .ok (.invokevirtual 88, 3) := by decide +kernel
theorem dX8_isOnTheWay_6 : decode cX8_isOnTheWay 6 = .ok (.iconst 1, 1) := by decide +kernel
theorem dX8_isOnTheWay_7 : decode cX8_isOnTheWay 7 = .ok (.bipush 9, 2) := by decide +kernel
theorem dX8_isOnTheWay_9 : decode cX8_isOnTheWay 9 = .ok (.invokestatic 84, 3) := by decide +kernel
theorem dX8_isOnTheWay_12 : decode cX8_isOnTheWay 12 = .ok (.ireturn, 1) := by decide +kernel
theorem sd813_0 (F : zFx p l R s m args meth c D cid kv N0 xs Ls RX8 cX8_isOnTheWay 2 n0 z0 nF zE d) (IH : zAllM l D cid kv N0 xs Ls d) (hQ : ∀ v h, Qq v h → v = r0 ∧ h = hF) (hn : nF = zN hF) (hz : zE = zZ hF) (hlocks : meth.locks = false) (hr : meth.sig.returnType = (some .boolean)) : zSoL p l e R s m args below meth c D cid kv N0 xs Ls 2 (MQ below (zQc D cid kv N0 xs Ls ρ0 r0 hF) args s (nF - n0) (zE - z0) (zA N0)) ρ0 n0 z0 nF zE Qq (zCall d) zt813_0 := zc_so (si_aload_n F dX8_isOnTheWay_0 rfl)
  (zc_so (si_iload_n F dX8_isOnTheWay_1 rfl)
  (zc_so (si_iconst F dX8_isOnTheWay_2 rfl)
  (zc_so (si_cV F (IH 808 mm808) mp808 (by decide) rfl rfl (by decide) tb_819 mi808 ms808 mn808 mc808 dX8_isOnTheWay_3)
  (zc_so (si_iconst F dX8_isOnTheWay_6 rfl)
  (zc_so (si_bipush F dX8_isOnTheWay_7 rfl)
  (zc_so (si_cS  F (IH 802 mm802) mp802 (by decide) tb_808 mi802 mn802 mc802 dX8_isOnTheWay_9)
  (zc_so (si_rI F hQ hn hz hlocks hr (fun x h => by rcases h with rfl | rfl <;> rfl) dX8_isOnTheWay_12)
  (zc_nil))))))))
theorem sd813 (F : zFx p l R s m args meth c D cid kv N0 xs Ls RX8 cX8_isOnTheWay 2 n0 z0 nF zE d) (IH : zAllM l D cid kv N0 xs Ls d) (hQ : ∀ v h, Qq v h → v = r0 ∧ h = hF) (hn : nF = zN hF) (hz : zE = zZ hF) (hlocks : meth.locks = false) (hr : meth.sig.returnType = (some .boolean)) (pc : Nat) : zSo p l e R s m args below meth c D cid kv N0 xs Ls 2 (MQ below (zQc D cid kv N0 xs Ls ρ0 r0 hF) args s (nF - n0) (zE - z0) (zA N0)) ρ0 n0 z0 nF zE Qq (zCall d) pc (zTab 813 pc) := zc_tab [zt813_0] (zc_cons (sd813_0 F IH hQ hn hz hlocks hr) zc_end)
theorem dX8_back_0 : decode cX8_back 0 = .ok (.aload_n 0, 1) := by decide +kernel
theorem dX8_back_1 : decode cX8_back 1 = .ok (.iload_n 1, 1) := by decide +kernel
theorem dX8_back_2 : decode cX8_back 2 = .ok (.invokevirtual 92, 3) := by decide +kernel
theorem dX8_back_5 : decode cX8_back 5 = .ok (.ifCond .ne 5, 3) := by decide +kernel
theorem dX8_back_8 : decode cX8_back 8 = .ok (.iconst (-1), 1) := by decide +kernel
theorem dX8_back_9 : decode cX8_back 9 = .ok (.ireturn, 1) := by decide +kernel
theorem dX8_back_10 : decode cX8_back 10 = .ok (.aload_n 0, 1) := by decide +kernel
theorem dX8_back_11 : decode cX8_back 11 = .ok (.iload_n 1, 1) := by decide +kernel
theorem dX8_back_12 : decode cX8_back 12 = .ok (.invokevirtual 107, 3) := by decide +kernel
theorem dX8_back_15 : decode cX8_back 15 = .ok (.ifCond .eq 21, 3) := by decide +kernel
theorem dX8_back_18 : decode cX8_back 18 = .ok (.aload_n 0, 1) := by decide +kernel
theorem dX8_back_19 : decode cX8_back 19 = .ok (.iload_n 1, 1) := by decide +kernel
theorem dX8_back_20 : decode cX8_back 20 = .ok (.iconst 4, 1) := by decide +kernel
theorem dX8_back_21 : decode cX8_back 21 = .ok (.iload_n 2, 1) := by decide +kernel
theorem dX8_back_22 : decode cX8_back 22 = .ok (.ifCond .eq 7, 3) := by decide +kernel
theorem dX8_back_25 : decode cX8_back 25 = .ok (.iconst 1, 1) := by decide +kernel
theorem dX8_back_26 : decode cX8_back 26 = .ok (.goto 4, 3) := by decide +kernel
theorem dX8_back_29 : decode cX8_back 29 = .ok (.iconst 0, 1) := by decide +kernel
theorem dX8_back_30 : decode cX8_back 30 = .ok (.invokevirtual 103, 3) := by decide +kernel
theorem dX8_back_33 : decode cX8_back 33 = .ok (.goto 5, 3) := by decide +kernel
theorem dX8_back_36 : decode cX8_back 36 = .ok (.bipush (-3), 2) := by decide +kernel
theorem dX8_back_38 : decode cX8_back 38 = .ok (.ireturn, 1) := by decide +kernel
theorem sd814_0 (F : zFx p l R s m args meth c D cid kv N0 xs Ls RX8 cX8_back 3 n0 z0 nF zE d) (IH : zAllM l D cid kv N0 xs Ls d) (hQ : ∀ v h, Qq v h → v = r0 ∧ h = hF) (hn : nF = zN hF) (hz : zE = zZ hF) (hlocks : meth.locks = false) (hr : meth.sig.returnType = (some .int)) : zSoL p l e R s m args below meth c D cid kv N0 xs Ls 3 (MQ below (zQc D cid kv N0 xs Ls ρ0 r0 hF) args s (nF - n0) (zE - z0) (zA N0)) ρ0 n0 z0 nF zE Qq (zCall d) zt814_0 := zc_so (si_aload_n F dX8_back_0 rfl)
  (zc_so (si_iload_n F dX8_back_1 rfl)
  (zc_so (si_cV F (IH 807 mm807) mp807 (by decide) rfl rfl (by decide) tb_815 mi807 ms807 mn807 mc807 dX8_back_2)
  (zc_so (si_ifne F dX8_back_5 rfl)
  (zc_so (si_iconst F dX8_back_8 rfl)
  (zc_so (si_rI F hQ hn hz hlocks hr (fun _ _ => rfl) dX8_back_9)
  (zc_so (si_aload_n F dX8_back_10 rfl)
  (zc_so (si_iload_n F dX8_back_11 rfl)
  (zc_so (si_cV F (IH 813 mm813) mp813 (by decide) rfl rfl (by decide) tb_900 mi813 ms813 mn813 mc813 dX8_back_12)
  (zc_so (si_ifeq F dX8_back_15 rfl)
  (zc_so (si_aload_n F dX8_back_18 rfl)
  (zc_so (si_iload_n F dX8_back_19 rfl)
  (zc_so (si_iconst F dX8_back_20 rfl)
  (zc_so (si_iload_n F dX8_back_21 rfl)
  (zc_so (si_ifeq F dX8_back_22 rfl)
  (zc_so (si_iconst F dX8_back_25 rfl)
  (zc_so (si_goto F dX8_back_26 rfl)
  (zc_so (si_iconst F dX8_back_29 rfl)
  (zc_so (si_cV F (IH 809 mm809) mp809 (by decide) rfl rfl (by decide) tb_888 mi809 ms809 mn809 mc809 dX8_back_30)
  (zc_so (si_goto F dX8_back_33 rfl)
  (zc_so (si_bipush F dX8_back_36 rfl)
  (zc_so (si_rI F hQ hn hz hlocks hr (fun _ _ => rfl) dX8_back_38)
  (zc_nil))))))))))))))))))))))
theorem sd814 (F : zFx p l R s m args meth c D cid kv N0 xs Ls RX8 cX8_back 3 n0 z0 nF zE d) (IH : zAllM l D cid kv N0 xs Ls d) (hQ : ∀ v h, Qq v h → v = r0 ∧ h = hF) (hn : nF = zN hF) (hz : zE = zZ hF) (hlocks : meth.locks = false) (hr : meth.sig.returnType = (some .int)) (pc : Nat) : zSo p l e R s m args below meth c D cid kv N0 xs Ls 3 (MQ below (zQc D cid kv N0 xs Ls ρ0 r0 hF) args s (nF - n0) (zE - z0) (zA N0)) ρ0 n0 z0 nF zE Qq (zCall d) pc (zTab 814 pc) := zc_tab [zt814_0] (zc_cons (sd814_0 F IH hQ hn hz hlocks hr) zc_end)
theorem dX8_purse_0 : decode cX8_purse 0 = .ok (.iload_n 1, 1) := by decide +kernel
theorem dX8_purse_1 : decode cX8_purse 1 = .ok (.iconst 0, 1) := by decide +kernel
theorem dX8_purse_2 : decode cX8_purse 2 = .ok (.ldc 110, 2) := by decide +kernel
theorem dX8_purse_4 : decode cX8_purse 4 = .ok (.invokestatic 84, 3) := by decide +kernel
theorem dX8_purse_7 : decode cX8_purse 7 = .ok (.ifCond .ne 6, 3) := by decide +kernel
theorem dX8_purse_10 : decode cX8_purse 10 = .ok (.bipush (-2), 2) := by decide +kernel
theorem dX8_purse_12 : decode cX8_purse 12 = .ok (.ireturn, 1) := by decide +kernel
theorem dX8_purse_13 : decode cX8_purse 13 = .ok (.aload_n 0, 1) := by decide +kernel
theorem dX8_purse_14 : decode cX8_purse 14 = .ok (.getfield 15, 3) := by decide +kernel
theorem dX8_purse_17 : decode cX8_purse 17 = .ok (.bipush 61, 2) := by decide +kernel
theorem dX8_purse_19 : decode cX8_purse 19 = .ok (.iaload, 1) := by decide +kernel
theorem dX8_purse_20 : decode cX8_purse 20 = .ok (.istore_n 2, 1) := by decide +kernel
theorem dX8_purse_21 : decode cX8_purse 21 = .ok (.aload_n 0, 1) := by decide +kernel
theorem dX8_purse_22 : decode cX8_purse 22 = .ok (.getfield 15, 3) := by decide +kernel
theorem dX8_purse_25 : decode cX8_purse 25 = .ok (.bipush 61, 2) := by decide +kernel
theorem dX8_purse_27 : decode cX8_purse 27 = .ok (.iload_n 1, 1) := by decide +kernel
theorem dX8_purse_28 : decode cX8_purse 28 = .ok (.iastore, 1) := by decide +kernel
theorem dX8_purse_29 : decode cX8_purse 29 = .ok (.iload_n 2, 1) := by decide +kernel
theorem dX8_purse_30 : decode cX8_purse 30 = .ok (.ireturn, 1) := by decide +kernel
theorem sd815_0 (F : zFx p l R s m args meth c D cid kv N0 xs Ls RX8 cX8_purse 3 n0 z0 nF zE d) (IH : zAllM l D cid kv N0 xs Ls d) (hQ : ∀ v h, Qq v h → v = r0 ∧ h = hF) (hn : nF = zN hF) (hz : zE = zZ hF) (hlocks : meth.locks = false) (hr : meth.sig.returnType = (some .int)) : zSoL p l e R s m args below meth c D cid kv N0 xs Ls 3 (MQ below (zQc D cid kv N0 xs Ls ρ0 r0 hF) args s (nF - n0) (zE - z0) (zA N0)) ρ0 n0 z0 nF zE Qq (zCall d) zt815_0 := zc_so (si_iload_n F dX8_purse_0 rfl)
  (zc_so (si_iconst F dX8_purse_1 rfl)
  (zc_so (si_ldc F dX8_purse_2 tb_908)
  (zc_so (si_cS  F (IH 802 mm802) mp802 (by decide) tb_808 mi802 mn802 mc802 dX8_purse_4)
  (zc_so (si_ifne F dX8_purse_7 rfl)
  (zc_so (si_bipush F dX8_purse_10 rfl)
  (zc_so (si_rI F hQ hn hz hlocks hr (fun _ _ => rfl) dX8_purse_12)
  (zc_so (si_aload_n F dX8_purse_13 rfl)
  (zc_so (si_getR (k := 0) F rfl inT8 (by decide) (by decide) rfl rfl tb_704 dX8_purse_14)
  (zc_so (si_bipush F dX8_purse_17 rfl)
  (zc_so (si_iaload F dX8_purse_19)
  (zc_so (si_istore_n F dX8_purse_20 rfl)
  (zc_so (si_aload_n F dX8_purse_21 rfl)
  (zc_so (si_getR (k := 0) F rfl inT8 (by decide) (by decide) rfl rfl tb_704 dX8_purse_22)
  (zc_so (si_bipush F dX8_purse_25 rfl)
  (zc_so (si_iload_n F dX8_purse_27 rfl)
  (zc_so (si_iastore F dX8_purse_28)
  (zc_so (si_iload_n F dX8_purse_29 rfl)
  (zc_so (si_rI F hQ hn hz hlocks hr (fun _ _ => rfl) dX8_purse_30)
  (zc_nil)))))))))))))))))))
theorem sd815 (F : zFx p l R s m args meth c D cid kv N0 xs Ls RX8 cX8_purse 3 n0 z0 nF zE d) (IH : zAllM l D cid kv N0 xs Ls d) (hQ : ∀ v h, Qq v h → v = r0 ∧ h = hF) (hn : nF = zN hF) (hz : zE = zZ hF) (hlocks : meth.locks = false) (hr : meth.sig.returnType = (some .int)) (pc : Nat) : zSo p l e R s m args below meth c D cid kv N0 xs Ls 3 (MQ below (zQc D cid kv N0 xs Ls ρ0 r0 hF) args s (nF - n0) (zE - z0) (zA N0)) ρ0 n0 z0 nF zE Qq (zCall d) pc (zTab 815 pc) := zc_tab [zt815_0] (zc_cons (sd815_0 F IH hQ hn hz hlocks hr) zc_end)
theorem dX8_row_0 : decode cX8_row 0 = .ok (.aload_n 0, 1) := by decide +kernel
theorem dX8_row_1 : decode cX8_row 1 = .ok (.iload_n 1, 1) := by decide +kernel
theorem dX8_row_2 : decode cX8_row 2 = .ok (.invokevirtual 92, 3) := by decide +kernel
theorem dX8_row_5 : decode cX8_row 5 = .ok (.ifCond .eq 12, 3) := by decide +kernel
theorem dX8_row_8 : decode cX8_row 8 = .ok (.iload_n 2, 1) := by decide +kernel
theorem dX8_row_9 : decode cX8_row 9 = .ok (.iconst 0, 1) := by decide +kernel
theorem dX8_row_10 : decode cX8_row 10 = .ok (.iconst 3, 1) := by decide +kernel
theorem dX8_row_11 : decode cX8_row 11 = .ok (.invokestatic 84, 3) := by decide +kernel
theorem dX8_row_14 : decode cX8_row 14 = .ok (.ifCond .ne 5, 3) := by decide +kernel
theorem dX8_row_17 : decode cX8_row 17 = .ok (.iconst (-1), 1) := by decide +kernel
theorem dX8_row_18 : decode cX8_row 18 = .ok (.ireturn, 1) := by decide +kernel
theorem dX8_row_19 : decode cX8_row 19 = .ok (.iload_n 3, 1) := by decide +kernel
theorem dX8_row_20 : decode cX8_row 20 = .ok (.iconst 0, 1) := by decide +kernel
theorem dX8_row_21 : decode cX8_row 21 = .ok (.bipush 9, 2) := by decide +kernel
theorem dX8_row_23 : decode cX8_row 23 = .ok (.invokestatic 84, 3) := by decide +kernel
theorem dX8_row_26 : decode cX8_row 26 = .ok (.ifCond .ne 6, 3) := by decide +kernel
theorem dX8_row_29 : decode cX8_row 29 = .ok (.bipush (-2), 2) := by decide +kernel
theorem dX8_row_31 : decode cX8_row 31 = .ok (.ireturn, 1) := by decide +kernel
theorem dX8_row_32 : decode cX8_row 32 = .ok (.aload_n 0, 1) := by decide +kernel
theorem dX8_row_33 : decode cX8_row 33 = .ok (.iload_n 1, 1) := by decide +kernel
theorem dX8_row_34 : decode cX8_row 34 = .ok (.iconst 0, 1) := by decide +kernel
theorem dX8_row_35 : decode cX8_row 35 = .ok (.invokevirtual 88, 3) := by decide +kernel
theorem dX8_row_38 : decode cX8_row 38 = .ok (.bipush 6, 2) := by decide +kernel
theorem dX8_row_40 : decode cX8_row 40 = .ok (.if_icmp .ne 16, 3) := by decide +kernel
theorem dX8_row_43 : decode cX8_row 43 = .ok (.aload_n 0, 1) := by decide +kernel
theorem dX8_row_44 : decode cX8_row 44 = .ok (.iload_n 1, 1) := by decide +kernel
theorem dX8_row_45 : decode cX8_row 45 = .ok (.bipush 6, 2) := by decide +kernel
theorem dX8_row_47 : decode cX8_row 47 = .ok (.iload_n 2, 1) := by decide +kernel
theorem dX8_row_48 : decode cX8_row 48 = .ok (.iadd, 1) := by decide +kernel
theorem dX8_row_49 : decode cX8_row 49 = .ok (.iload_n 3, 1) := by decide +kernel
theorem dX8_row_50 : decode cX8_row 50 = .ok (.invokevirtual 103, 3) := by decide +kernel
theorem dX8_row_53 : decode cX8_row 53 = .ok (.goto 5, 3) := by decide +kernel
theorem dX8_row_56 : decode cX8_row 56 = .ok (.bipush (-3), 2) := by decide +kernel
theorem dX8_row_58 : decode cX8_row 58 = .ok (.ireturn, 1) := by decide +kernel
theorem sd816_0 (F : zFx p l R s m args meth c D cid kv N0 xs Ls RX8 cX8_row 4 n0 z0 nF zE d) (IH : zAllM l D cid kv N0 xs Ls d) (hQ : ∀ v h, Qq v h → v = r0 ∧ h = hF) (hn : nF = zN hF) (hz : zE = zZ hF) (hlocks : meth.locks = false) (hr : meth.sig.returnType = (some .int)) : zSoL p l e R s m args below meth c D cid kv N0 xs Ls 4 (MQ below (zQc D cid kv N0 xs Ls ρ0 r0 hF) args s (nF - n0) (zE - z0) (zA N0)) ρ0 n0 z0 nF zE Qq (zCall d) zt816_0 := zc_so (si_aload_n F dX8_row_0 rfl)
  (zc_so (si_iload_n F dX8_row_1 rfl)
  (zc_so (si_cV F (IH 807 mm807) mp807 (by decide) rfl rfl (by decide) tb_815 mi807 ms807 mn807 mc807 dX8_row_2)
  (zc_so (si_ifeq F dX8_row_5 rfl)
  (zc_so (si_iload_n F dX8_row_8 rfl)
  (zc_so (si_iconst F dX8_row_9 rfl)
  (zc_so (si_iconst F dX8_row_10 rfl)
  (zc_so (si_cS  F (IH 802 mm802) mp802 (by decide) tb_808 mi802 mn802 mc802 dX8_row_11)
  (zc_so (si_ifne F dX8_row_14 rfl)
  (zc_so (si_iconst F dX8_row_17 rfl)
  (zc_so (si_rI F hQ hn hz hlocks hr (fun _ _ => rfl) dX8_row_18)
  (zc_so (si_iload_n F dX8_row_19 rfl)
  (zc_so (si_iconst F dX8_row_20 rfl)
  (zc_so (si_bipush F dX8_row_21 rfl)
  (zc_so (si_cS  F (IH 802 mm802) mp802 (by decide) tb_808 mi802 mn802 mc802 dX8_row_23)
  (zc_so (si_ifne F dX8_row_26 rfl)
  (zc_so (si_bipush F dX8_row_29 rfl)
  (zc_so (si_rI F hQ hn hz hlocks hr (fun _ _ => rfl) dX8_row_31)
  (zc_so (si_aload_n F dX8_row_32 rfl)
  (zc_so (si_iload_n F dX8_row_33 rfl)
  (zc_so (si_iconst F dX8_row_34 rfl)
  (zc_so (si_cV F (IH 808 mm808) mp808 (by decide) rfl rfl (by decide) tb_819 mi808 ms808 mn808 mc808 dX8_row_35)
  (zc_so (si_bipush F dX8_row_38 rfl)
  (zc_so (si_icne F dX8_row_40 rfl)
  (zc_so (si_aload_n F dX8_row_43 rfl)
  (zc_so (si_iload_n F dX8_row_44 rfl)
  (zc_so (si_bipush F dX8_row_45 rfl)
  (zc_so (si_iload_n F dX8_row_47 rfl)
  (zc_so (si_iadd F dX8_row_48)
  (zc_so (si_iload_n F dX8_row_49 rfl)
  (zc_so (si_cV F (IH 809 mm809) mp809 (by decide) rfl rfl (by decide) tb_888 mi809 ms809 mn809 mc809 dX8_row_50)
  (zc_so (si_goto F dX8_row_53 rfl)
  (zc_so (si_bipush F dX8_row_56 rfl)
  (zc_so (si_rI F hQ hn hz hlocks hr (fun _ _ => rfl) dX8_row_58)
  (zc_nil))))))))))))))))))))))))))))))))))
theorem sd816 (F : zFx p l R s m args meth c D cid kv N0 xs Ls RX8 cX8_row 4 n0 z0 nF zE d) (IH : zAllM l D cid kv N0 xs Ls d) (hQ : ∀ v h, Qq v h → v = r0 ∧ h = hF) (hn : nF = zN hF) (hz : zE = zZ hF) (hlocks : meth.locks = false) (hr : meth.sig.returnType = (some .int)) (pc : Nat) : zSo p l e R s m args below meth c D cid kv N0 xs Ls 4 (MQ below (zQc D cid kv N0 xs Ls ρ0 r0 hF) args s (nF - n0) (zE - z0) (zA N0)) ρ0 n0 z0 nF zE Qq (zCall d) pc (zTab 816 pc) := zc_tab [zt816_0] (zc_cons (sd816_0 F IH hQ hn hz hlocks hr) zc_end)
theorem dX8_feed_0 : decode cX8_feed 0 = .ok (.iload_n 1, 1) := by decide +kernel
theorem dX8_feed_1 : decode cX8_feed 1 = .ok (.iconst 0, 1) := by decide +kernel
theorem dX8_feed_2 : decode cX8_feed 2 = .ok (.bipush 127, 2) := by decide +kernel
theorem dX8_feed_4 : decode cX8_feed 4 = .ok (.invokestatic 84, 3) := by decide +kernel
theorem dX8_feed_7 : decode cX8_feed 7 = .ok (.ifCond .ne 6, 3) := by decide +kernel
theorem dX8_feed_10 : decode cX8_feed 10 = .ok (.bipush (-2), 2) := by decide +kernel
theorem dX8_feed_12 : decode cX8_feed 12 = .ok (.ireturn, 1) := by decide +kernel
theorem dX8_feed_13 : decode cX8_feed 13 = .ok (.aload_n 0, 1) := by decide +kernel
theorem dX8_feed_14 : decode cX8_feed 14 = .ok (.getfield 111, 3) := by decide +kernel
theorem dX8_feed_17 : decode cX8_feed 17 = .ok (.bipush 100, 2) := by decide +kernel
theorem dX8_feed_19 : decode cX8_feed 19 = .ok (.if_icmp .ne 6, 3) := by decide +kernel
theorem dX8_feed_22 : decode cX8_feed 22 = .ok (.bipush (-4), 2) := by decide +kernel
theorem dX8_feed_24 : decode cX8_feed 24 = .ok (.ireturn, 1) := by decide +kernel
theorem dX8_feed_25 : decode cX8_feed 25 = .ok (.aload_n 0, 1) := by decide +kernel
theorem dX8_feed_26 : decode cX8_feed 26 = .ok (.getfield 29, 3) := by decide +kernel
theorem dX8_feed_29 : decode cX8_feed 29 = .ok (.aload_n 0, 1) := by decide +kernel
theorem dX8_feed_30 : decode cX8_feed 30 = .ok (.getfield 111, 3) := by decide +kernel
theorem dX8_feed_33 : decode cX8_feed 33 = .ok (.iload_n 1, 1) := by decide +kernel
theorem dX8_feed_34 : decode cX8_feed 34 = .ok (.iastore, 1) := by decide +kernel
theorem dX8_feed_35 : decode cX8_feed 35 = .ok (.aload_n 0, 1) := by decide +kernel
theorem dX8_feed_36 : decode cX8_feed 36 = .ok (.dup, 1) := by decide +kernel
theorem dX8_feed_37 : decode cX8_feed 37 = .ok (.getfield 111, 3) := by decide +kernel
theorem dX8_feed_40 : decode cX8_feed 40 = .ok (.iconst 1, 1) := by decide +kernel
theorem dX8_feed_41 : decode cX8_feed 41 = .ok (.iadd, 1) := by decide +kernel
theorem dX8_feed_42 : decode cX8_feed 42 = .ok (.putfield 111, 3) := by decide +kernel
theorem dX8_feed_45 : decode cX8_feed 45 = .ok (.aload_n 0, 1) := by decide +kernel
theorem dX8_feed_46 : decode cX8_feed 46 = .ok (.getfield 111, 3) := by decide +kernel
theorem dX8_feed_49 : decode cX8_feed 49 = .ok (.ireturn, 1) := by decide +kernel
theorem sd817_0 (F : zFx p l R s m args meth c D cid kv N0 xs Ls RX8 cX8_feed 2 n0 z0 nF zE d) (IH : zAllM l D cid kv N0 xs Ls d) (hQ : ∀ v h, Qq v h → v = r0 ∧ h = hF) (hn : nF = zN hF) (hz : zE = zZ hF) (hlocks : meth.locks = false) (hr : meth.sig.returnType = (some .int)) : zSoL p l e R s m args below meth c D cid kv N0 xs Ls 2 (MQ below (zQc D cid kv N0 xs Ls ρ0 r0 hF) args s (nF - n0) (zE - z0) (zA N0)) ρ0 n0 z0 nF zE Qq (zCall d) zt817_0 := zc_so (si_iload_n F dX8_feed_0 rfl)
  (zc_so (si_iconst F dX8_feed_1 rfl)
  (zc_so (si_bipush F dX8_feed_2 rfl)
  (zc_so (si_cS  F (IH 802 mm802) mp802 (by decide) tb_808 mi802 mn802 mc802 dX8_feed_4)
  (zc_so (si_ifne F dX8_feed_7 rfl)
  (zc_so (si_bipush F dX8_feed_10 rfl)
  (zc_so (si_rI F hQ hn hz hlocks hr (fun _ _ => rfl) dX8_feed_12)
  (zc_so (si_aload_n F dX8_feed_13 rfl)
  (zc_so (si_getI (k := 6) F rfl inT8 (by decide) (by decide) rfl rfl tb_710 dX8_feed_14)
  (zc_so (si_bipush F dX8_feed_17 rfl)
  (zc_so (si_icne F dX8_feed_19 rfl)
  (zc_so (si_bipush F dX8_feed_22 rfl)
  (zc_so (si_rI F hQ hn hz hlocks hr (fun _ _ => rfl) dX8_feed_24)
  (zc_so (si_aload_n F dX8_feed_25 rfl)
  (zc_so (si_getR (k := 5) F rfl inT8 (by decide) (by decide) rfl rfl tb_709 dX8_feed_26)
  (zc_so (si_aload_n F dX8_feed_29 rfl)
  (zc_so (si_getI (k := 6) F rfl inT8 (by decide) (by decide) rfl rfl tb_710 dX8_feed_30)
  (zc_so (si_iload_n F dX8_feed_33 rfl)
  (zc_so (si_iastore F dX8_feed_34)
  (zc_so (si_aload_n F dX8_feed_35 rfl)
  (zc_so (si_dup F dX8_feed_36)
  (zc_so (si_getI (k := 6) F rfl inT8 (by decide) (by decide) rfl rfl tb_710 dX8_feed_37)
  (zc_so (si_iconst F dX8_feed_40 rfl)
  (zc_so (si_iadd F dX8_feed_41)
  (zc_so (si_putI (k := 6) F rfl inT8 (by decide) (by decide) rfl rfl rfl rfl tyX8_ok nmX8 tb_710 dX8_feed_42)
  (zc_so (si_aload_n F dX8_feed_45 rfl)
  (zc_so (si_getI (k := 6) F rfl inT8 (by decide) (by decide) rfl rfl tb_710 dX8_feed_46)
  (zc_so (si_rI F hQ hn hz hlocks hr (fun _ _ => rfl) dX8_feed_49)
  (zc_nil))))))))))))))))))))))))))))
theorem sd817 (F : zFx p l R s m args meth c D cid kv N0 xs Ls RX8 cX8_feed 2 n0 z0 nF zE d) (IH : zAllM l D cid kv N0 xs Ls d) (hQ : ∀ v h, Qq v h → v = r0 ∧ h = hF) (hn : nF = zN hF) (hz : zE = zZ hF) (hlocks : meth.locks = false) (hr : meth.sig.returnType = (some .int)) (pc : Nat) : zSo p l e R s m args below meth c D cid kv N0 xs Ls 2 (MQ below (zQc D cid kv N0 xs Ls ρ0 r0 hF) args s (nF - n0) (zE - z0) (zA N0)) ρ0 n0 z0 nF zE Qq (zCall d) pc (zTab 817 pc) := zc_tab [zt817_0] (zc_cons (sd817_0 F IH hQ hn hz hlocks hr) zc_end)
theorem dX8_isAt_0 : decode cX8_isAt 0 = .ok (.aload_n 0, 1) := by decide +kernel
theorem dX8_isAt_1 : decode cX8_isAt 1 = .ok (.getfield 114, 3) := by decide +kernel
theorem dX8_isAt_4 : decode cX8_isAt 4 = .ok (.ifCond .eq 31, 3) := by decide +kernel
theorem dX8_isAt_7 : decode cX8_isAt 7 = .ok (.aload_n 0, 1) := by decide +kernel
theorem dX8_isAt_8 : decode cX8_isAt 8 = .ok (.getfield 117, 3) := by decide +kernel
theorem dX8_isAt_11 : decode cX8_isAt 11 = .ok (.aload_n 0, 1) := by decide +kernel
theorem dX8_isAt_12 : decode cX8_isAt 12 = .ok (.getfield 120, 3) := by decide +kernel
theorem dX8_isAt_15 : decode cX8_isAt 15 = .ok (.if_icmp .ge 20, 3) := by decide +kernel
theorem dX8_isAt_18 : decode cX8_isAt 18 = .ok (.aload_n 0, 1) := by decide +kernel
theorem dX8_isAt_19 : decode cX8_isAt 19 = .ok (.getfield 38, 3) := by decide +kernel
theorem dX8_isAt_22 : decode cX8_isAt 22 = .ok (.aload_n 0, 1) := by decide +kernel
theorem dX8_isAt_23 : decode cX8_isAt 23 = .ok (.getfield 117, 3) := by decide +kernel
theorem dX8_isAt_26 : decode cX8_isAt 26 = .ok (.iaload, 1) := by decide +kernel
theorem dX8_isAt_27 : decode cX8_isAt 27 = .ok (.iload_n 1, 1) := by decide +kernel
theorem dX8_isAt_28 : decode cX8_isAt 28 = .ok (.if_icmp .ne 7, 3) := by decide +kernel
theorem dX8_isAt_31 : decode cX8_isAt 31 = .ok (.iconst 1, 1) := by decide +kernel
theorem dX8_isAt_32 : decode cX8_isAt 32 = .ok (.goto 4, 3) := by decide +kernel
theorem dX8_isAt_35 : decode cX8_isAt 35 = .ok (.iconst 0, 1) := by decide +kernel
theorem dX8_isAt_36 : decode cX8_isAt 36 = .ok (.ireturn, 1) := by decide +kernel
theorem sd818_0 (F : zFx p l R s m args meth c D cid kv N0 xs Ls RX8 cX8_isAt 2 n0 z0 nF zE d) (IH : zAllM l D cid kv N0 xs Ls d) (hQ : ∀ v h, Qq v h → v = r0 ∧ h = hF) (hn : nF = zN hF) (hz : zE = zZ hF) (hlocks : meth.locks = false) (hr : meth.sig.returnType = (some .boolean)) : zSoL p l e R s m args below meth c D cid kv N0 xs Ls 2 (MQ below (zQc D cid kv N0 xs Ls ρ0 r0 hF) args s (nF - n0) (zE - z0) (zA N0)) ρ0 n0 z0 nF zE Qq (zCall d) zt818_0 := zc_so (si_aload_n F dX8_isAt_0 rfl)
  (zc_so (si_getI (k := 13) F rfl inT8 (by decide) (by decide) rfl rfl tb_717 dX8_isAt_1)
  (zc_so (si_ifeq F dX8_isAt_4 rfl)
  (zc_so (si_aload_n F dX8_isAt_7 rfl)
  (zc_so (si_getI (k := 12) F rfl inT8 (by decide) (by decide) rfl rfl tb_716 dX8_isAt_8)
  (zc_so (si_aload_n F dX8_isAt_11 rfl)
  (zc_so (si_getI (k := 11) F rfl inT8 (by decide) (by decide) rfl rfl tb_715 dX8_isAt_12)
  (zc_so (si_icge F dX8_isAt_15 rfl)
  (zc_so (si_aload_n F dX8_isAt_18 rfl)
  (zc_so (si_getR (k := 10) F rfl inT8 (by decide) (by decide) rfl rfl tb_714 dX8_isAt_19)
  (zc_so (si_aload_n F dX8_isAt_22 rfl)
  (zc_so (si_getI (k := 12) F rfl inT8 (by decide) (by decide) rfl rfl tb_716 dX8_isAt_23)
  (zc_so (si_iaload F dX8_isAt_26)
  (zc_so (si_iload_n F dX8_isAt_27 rfl)
  (zc_so (si_icne F dX8_isAt_28 rfl)
  (zc_so (si_iconst F dX8_isAt_31 rfl)
  (zc_so (si_goto F dX8_isAt_32 rfl)
  (zc_so (si_iconst F dX8_isAt_35 rfl)
  (zc_so (si_rI F hQ hn hz hlocks hr (fun x h => by rcases h with rfl | rfl <;> rfl) dX8_isAt_36)
  (zc_nil)))))))))))))))))))
theorem sd818 (F : zFx p l R s m args meth c D cid kv N0 xs Ls RX8 cX8_isAt 2 n0 z0 nF zE d) (IH : zAllM l D cid kv N0 xs Ls d) (hQ : ∀ v h, Qq v h → v = r0 ∧ h = hF) (hn : nF = zN hF) (hz : zE = zZ hF) (hlocks : meth.locks = false) (hr : meth.sig.returnType = (some .boolean)) (pc : Nat) : zSo p l e R s m args below meth c D cid kv N0 xs Ls 2 (MQ below (zQc D cid kv N0 xs Ls ρ0 r0 hF) args s (nF - n0) (zE - z0) (zA N0)) ρ0 n0 z0 nF zE Qq (zCall d) pc (zTab 818 pc) := zc_tab [zt818_0] (zc_cons (sd818_0 F IH hQ hn hz hlocks hr) zc_end)
theorem dX8_takes_0 : decode cX8_takes 0 = .ok (.aload_n 0, 1) := by decide +kernel
theorem dX8_takes_1 : decode cX8_takes 1 = .ok (.iload_n 1, 1) := by decide +kernel
theorem dX8_takes_2 : decode cX8_takes 2 = .ok (.invokevirtual 123, 3) := by decide +kernel
theorem dX8_takes_5 : decode cX8_takes 5 = .ok (.ifCond .eq 16, 3) := by decide +kernel
theorem dX8_takes_8 : decode cX8_takes 8 = .ok (.aload_n 0, 1) := by decide +kernel
theorem dX8_takes_9 : decode cX8_takes 9 = .ok (.dup, 1) := by decide +kernel
theorem dX8_takes_10 : decode cX8_takes 10 = .ok (.getfield 117, 3) := by decide +kernel
theorem dX8_takes_13 : decode cX8_takes 13 = .ok (.iconst 1, 1) := by decide +kernel
theorem dX8_takes_14 : decode cX8_takes 14 = .ok (.iadd, 1) := by decide +kernel
theorem dX8_takes_15 : decode cX8_takes 15 = .ok (.putfield 117, 3) := by decide +kernel
theorem dX8_takes_18 : decode cX8_takes 18 = .ok (.goto 8, 3) := by decide +kernel
theorem dX8_takes_21 : decode cX8_takes 21 = .ok (.aload_n 0, 1) := by decide +kernel
theorem dX8_takes_22 : decode cX8_takes 22 = .ok (.iconst 0, 1) := by decide +kernel
theorem dX8_takes_23 : decode cX8_takes 23 = .ok (.putfield 114, 3) := by decide +kernel
theorem dX8_takes_26 : decode cX8_takes 26 = .ok (.return_, 1) := by decide +kernel
theorem sd819_0 (F : zFx p l R s m args meth c D cid kv N0 xs Ls RX8 cX8_takes 2 n0 z0 nF zE d) (IH : zAllM l D cid kv N0 xs Ls d) (hQ : ∀ v h, Qq v h → v = r0 ∧ h = hF) (hn : nF = zN hF) (hz : zE = zZ hF) (hlocks : meth.locks = false) (hr : meth.sig.returnType = none) : zSoL p l e R s m args below meth c D cid kv N0 xs Ls 2 (MQ below (zQc D cid kv N0 xs Ls ρ0 r0 hF) args s (nF - n0) (zE - z0) (zA N0)) ρ0 n0 z0 nF zE Qq (zCall d) zt819_0 := zc_so (si_aload_n F dX8_takes_0 rfl)
  (zc_so (si_iload_n F dX8_takes_1 rfl)
  (zc_so (si_cV F (IH 818 mm818) mp818 (by decide) rfl rfl (by decide) tb_839 mi818 ms818 mn818 mc818 dX8_takes_2)
  (zc_so (si_ifeq F dX8_takes_5 rfl)
  (zc_so (si_aload_n F dX8_takes_8 rfl)
  (zc_so (si_dup F dX8_takes_9)
  (zc_so (si_getI (k := 12) F rfl inT8 (by decide) (by decide) rfl rfl tb_716 dX8_takes_10)
  (zc_so (si_iconst F dX8_takes_13 rfl)
  (zc_so (si_iadd F dX8_takes_14)
  (zc_so (si_putI (k := 12) F rfl inT8 (by decide) (by decide) rfl rfl rfl rfl tyX8_ok nmX8 tb_716 dX8_takes_15)
  (zc_so (si_goto F dX8_takes_18 rfl)
  (zc_so (si_aload_n F dX8_takes_21 rfl)
  (zc_so (si_iconst F dX8_takes_22 rfl)
  (zc_so (si_putZ (k := 13) F rfl inT8 (by decide) (by decide) rfl rfl rfl rfl tyX8_ok nmX8 tb_717 dX8_takes_23)
  (zc_so (si_rV F hQ hn hz hlocks hr dX8_takes_26)
  (zc_nil)))))))))))))))
theorem sd819 (F : zFx p l R s m args meth c D cid kv N0 xs Ls RX8 cX8_takes 2 n0 z0 nF zE d) (IH : zAllM l D cid kv N0 xs Ls d) (hQ : ∀ v h, Qq v h → v = r0 ∧ h = hF) (hn : nF = zN hF) (hz : zE = zZ hF) (hlocks : meth.locks = false) (hr : meth.sig.returnType = none) (pc : Nat) : zSo p l e R s m args below meth c D cid kv N0 xs Ls 2 (MQ below (zQc D cid kv N0 xs Ls ρ0 r0 hF) args s (nF - n0) (zE - z0) (zA N0)) ρ0 n0 z0 nF zE Qq (zCall d) pc (zTab 819 pc) := zc_tab [zt819_0] (zc_cons (sd819_0 F IH hQ hn hz hlocks hr) zc_end)
theorem dX8_isDigit_0 : decode cX8_isDigit 0 = .ok (.aload_n 0, 1) := by decide +kernel
theorem dX8_isDigit_1 : decode cX8_isDigit 1 = .ok (.getfield 114, 3) := by decide +kernel
theorem dX8_isDigit_4 : decode cX8_isDigit 4 = .ok (.ifCond .eq 46, 3) := by decide +kernel
theorem dX8_isDigit_7 : decode cX8_isDigit 7 = .ok (.aload_n 0, 1) := by decide +kernel
theorem dX8_isDigit_8 : decode cX8_isDigit 8 = .ok (.getfield 117, 3) := by decide +kernel
theorem dX8_isDigit_11 : decode cX8_isDigit 11 = .ok (.aload_n 0, 1) := by decide +kernel
theorem dX8_isDigit_12 : decode cX8_isDigit 12 = .ok (.getfield 120, 3) := by decide +kernel
theorem dX8_isDigit_15 : decode cX8_isDigit 15 = .ok (.if_icmp .ge 35, 3) := by decide +kernel
theorem dX8_isDigit_18 : decode cX8_isDigit 18 = .ok (.aload_n 0, 1) := by decide +kernel
theorem dX8_isDigit_19 : decode cX8_isDigit 19 = .ok (.getfield 38, 3) := by decide +kernel
theorem dX8_isDigit_22 : decode cX8_isDigit 22 = .ok (.aload_n 0, 1) := by decide +kernel
theorem dX8_isDigit_23 : decode cX8_isDigit 23 = .ok (.getfield 117, 3) := by decide +kernel
theorem dX8_isDigit_26 : decode cX8_isDigit 26 = .ok (.iaload, 1) := by decide +kernel
theorem dX8_isDigit_27 : decode cX8_isDigit 27 = .ok (.bipush 48, 2) := by decide +kernel
theorem dX8_isDigit_29 : decode cX8_isDigit 29 = .ok (.if_icmp .lt 21, 3) := by decide +kernel
theorem dX8_isDigit_32 : decode cX8_isDigit 32 = .ok (.aload_n 0, 1) := by decide +kernel
theorem dX8_isDigit_33 : decode cX8_isDigit 33 = .ok (.getfield 38, 3) := by decide +kernel
theorem dX8_isDigit_36 : decode cX8_isDigit 36 = .ok (.aload_n 0, 1) := by decide +kernel
theorem dX8_isDigit_37 : decode cX8_isDigit 37 = .ok (.getfield 117, 3) := by decide +kernel
theorem dX8_isDigit_40 : decode cX8_isDigit 40 = .ok (.iaload, 1) := by decide +kernel
theorem dX8_isDigit_41 : decode cX8_isDigit 41 = .ok (.bipush 57, 2) := by decide +kernel
theorem dX8_isDigit_43 : decode cX8_isDigit 43 = .ok (.if_icmp .gt 7, 3) := by decide +kernel
theorem dX8_isDigit_46 : decode cX8_isDigit 46 = .ok (.iconst 1, 1) := by decide +kernel
theorem dX8_isDigit_47 : decode cX8_isDigit 47 = .ok (.goto 4, 3) := by decide +kernel
theorem dX8_isDigit_50 : decode cX8_isDigit 50 = .ok (.iconst 0, 1) := by decide +kernel
theorem dX8_isDigit_51 : decode cX8_isDigit 51 = .ok (.ireturn, 1) := by decide +kernel
theorem sd820_0 (F : zFx p l R s m args meth c D cid kv N0 xs Ls RX8 cX8_isDigit 1 n0 z0 nF zE d) (IH : zAllM l D cid kv N0 xs Ls d) (hQ : ∀ v h, Qq v h → v = r0 ∧ h = hF) (hn : nF = zN hF) (hz : zE = zZ hF) (hlocks : meth.locks = false) (hr : meth.sig.returnType = (some .boolean)) : zSoL p l e R s m args below meth c D cid kv N0 xs Ls 1 (MQ below (zQc D cid kv N0 xs Ls ρ0 r0 hF) args s (nF - n0) (zE - z0) (zA N0)) ρ0 n0 z0 nF zE Qq (zCall d) zt820_0 := zc_so (si_aload_n F dX8_isDigit_0 rfl)
  (zc_so (si_getI (k := 13) F rfl inT8 (by decide) (by decide) rfl rfl tb_717 dX8_isDigit_1)
  (zc_so (si_ifeq F dX8_isDigit_4 rfl)
  (zc_so (si_aload_n F dX8_isDigit_7 rfl)
  (zc_so (si_getI (k := 12) F rfl inT8 (by decide) (by decide) rfl rfl tb_716 dX8_isDigit_8)
  (zc_so (si_aload_n F dX8_isDigit_11 rfl)
  (zc_so (si_getI (k := 11) F rfl inT8 (by decide) (by decide) rfl rfl tb_715 dX8_isDigit_12)
  (zc_so (si_icge F dX8_isDigit_15 rfl)
  (zc_so (si_aload_n F dX8_isDigit_18 rfl)
  (zc_so (si_getR (k := 10) F rfl inT8 (by decide) (by decide) rfl rfl tb_714 dX8_isDigit_19)
  (zc_so (si_aload_n F dX8_isDigit_22 rfl)
  (zc_so (si_getI (k := 12) F rfl inT8 (by decide) (by decide) rfl rfl tb_716 dX8_isDigit_23)
  (zc_so (si_iaload F dX8_isDigit_26)
  (zc_so (si_bipush F dX8_isDigit_27 rfl)
  (zc_so (si_iclt F dX8_isDigit_29 rfl)
  (zc_so (si_aload_n F dX8_isDigit_32 rfl)
  (zc_so (si_getR (k := 10) F rfl inT8 (by decide) (by decide) rfl rfl tb_714 dX8_isDigit_33)
  (zc_so (si_aload_n F dX8_isDigit_36 rfl)
  (zc_so (si_getI (k := 12) F rfl inT8 (by decide) (by decide) rfl rfl tb_716 dX8_isDigit_37)
  (zc_so (si_iaload F dX8_isDigit_40)
  (zc_so (si_bipush F dX8_isDigit_41 rfl)
  (zc_so (si_icgt F dX8_isDigit_43 rfl)
  (zc_so (si_iconst F dX8_isDigit_46 rfl)
  (zc_so (si_goto F dX8_isDigit_47 rfl)
  (zc_so (si_iconst F dX8_isDigit_50 rfl)
  (zc_so (si_rI F hQ hn hz hlocks hr (fun x h => by rcases h with rfl | rfl <;> rfl) dX8_isDigit_51)
  (zc_nil))))))))))))))))))))))))))
theorem sd820 (F : zFx p l R s m args meth c D cid kv N0 xs Ls RX8 cX8_isDigit 1 n0 z0 nF zE d) (IH : zAllM l D cid kv N0 xs Ls d) (hQ : ∀ v h, Qq v h → v = r0 ∧ h = hF) (hn : nF = zN hF) (hz : zE = zZ hF) (hlocks : meth.locks = false) (hr : meth.sig.returnType = (some .boolean)) (pc : Nat) : zSo p l e R s m args below meth c D cid kv N0 xs Ls 1 (MQ below (zQc D cid kv N0 xs Ls ρ0 r0 hF) args s (nF - n0) (zE - z0) (zA N0)) ρ0 n0 z0 nF zE Qq (zCall d) pc (zTab 820 pc) := zc_tab [zt820_0] (zc_cons (sd820_0 F IH hQ hn hz hlocks hr) zc_end)
theorem dX8_number_0 : decode cX8_number 0 = .ok (.aload_n 0, 1) := by decide +kernel
theorem dX8_number_1 : decode cX8_number 1 = .ok (.invokevirtual 126, 3) := by decide +kernel
theorem dX8_number_4 : decode cX8_number 4 = .ok (.ifCond .ne 10, 3) := by decide +kernel
theorem dX8_number_7 : decode cX8_number 7 = .ok (.aload_n 0, 1) := by decide +kernel
theorem dX8_number_8 : decode cX8_number 8 = .ok (.iconst 0, 1) := by decide +kernel
theorem dX8_number_9 : decode cX8_number 9 = .ok (.putfield 114, 3) := by decide +kernel
theorem dX8_number_12 : decode cX8_number 12 = .ok (.iconst 0, 1) := by decide +kernel
theorem dX8_number_13 : decode cX8_number 13 = .ok (.ireturn, 1) := by decide +kernel
theorem dX8_number_14 : decode cX8_number 14 = .ok (.aload_n 0, 1) := by decide +kernel
theorem dX8_number_15 : decode cX8_number 15 = .ok (.getfield 38, 3) := by decide +kernel
theorem dX8_number_18 : decode cX8_number 18 = .ok (.aload_n 0, 1) := by decide +kernel
theorem dX8_number_19 : decode cX8_number 19 = .ok (.getfield 117, 3) := by decide +kernel
theorem dX8_number_22 : decode cX8_number 22 = .ok (.iaload, 1) := by decide +kernel
theorem dX8_number_23 : decode cX8_number 23 = .ok (.bipush 48, 2) := by decide +kernel
theorem dX8_number_25 : decode cX8_number 25 = .ok (.isub, 1) := by decide +kernel
theorem dX8_number_26 : decode cX8_number 26 = .ok (.istore_n 1, 1) := by decide +kernel
theorem dX8_number_27 : decode cX8_number 27 = .ok (.aload_n 0, 1) := by decide +kernel
theorem dX8_number_28 : decode cX8_number 28 = .ok (.dup, 1) := by decide +kernel
theorem dX8_number_29 : decode cX8_number 29 = .ok (.getfield 117, 3) := by decide +kernel
theorem dX8_number_32 : decode cX8_number 32 = .ok (.iconst 1, 1) := by decide +kernel
theorem dX8_number_33 : decode cX8_number 33 = .ok (.iadd, 1) := by decide +kernel
theorem dX8_number_34 : decode cX8_number 34 = .ok (.putfield 117, 3) := by decide +kernel
theorem dX8_number_37 : decode cX8_number 37 = .ok (.aload_n 0, 1) := by decide +kernel
theorem dX8_number_38 : decode cX8_number 38 = .ok (.invokevirtual 126, 3) := by decide +kernel
theorem dX8_number_41 : decode cX8_number 41 = .ok (.ifCond .eq 31, 3) := by decide +kernel
theorem dX8_number_44 : decode cX8_number 44 = .ok (.bipush 10, 2) := by decide +kernel
theorem dX8_number_46 : decode cX8_number 46 = .ok (.iload_n 1, 1) := by decide +kernel
theorem dX8_number_47 : decode cX8_number 47 = .ok (.imul, 1) := by decide +kernel
theorem dX8_number_48 : decode cX8_number 48 = .ok (.aload_n 0, 1) := by decide +kernel
theorem dX8_number_49 : decode cX8_number 49 = .ok (.getfield 38, 3) := by decide +kernel
theorem dX8_number_52 : decode cX8_number 52 = .ok (.aload_n 0, 1) := by decide +kernel
theorem dX8_number_53 : decode cX8_number 53 = .ok (.getfield 117, 3) := by decide +kernel
theorem dX8_number_56 : decode cX8_number 56 = .ok (.iaload, 1) := by decide +kernel
theorem dX8_number_57 : decode cX8_number 57 = .ok (.iadd, 1) := by decide +kernel
theorem dX8_number_58 : decode cX8_number 58 = .ok (.bipush 48, 2) := by decide +kernel
theorem dX8_number_60 : decode cX8_number 60 = .ok (.isub, 1) := by decide +kernel
theorem dX8_number_61 : decode cX8_number 61 = .ok (.istore_n 1, 1) := by decide +kernel
theorem dX8_number_62 : decode cX8_number 62 = .ok (.aload_n 0, 1) := by decide +kernel
theorem dX8_number_63 : decode cX8_number 63 = .ok (.dup, 1) := by decide +kernel
theorem dX8_number_64 : decode cX8_number 64 = .ok (.getfield 117, 3) := by decide +kernel
theorem dX8_number_67 : decode cX8_number 67 = .ok (.iconst 1, 1) := by decide +kernel
theorem dX8_number_68 : decode cX8_number 68 = .ok (.iadd, 1) := by decide +kernel
theorem dX8_number_69 : decode cX8_number 69 = .ok (.putfield 117, 3) := by decide +kernel
theorem dX8_number_72 : decode cX8_number 72 = .ok (.iload_n 1, 1) := by decide +kernel
theorem dX8_number_73 : decode cX8_number 73 = .ok (.ireturn, 1) := by decide +kernel
theorem sd821_0 (F : zFx p l R s m args meth c D cid kv N0 xs Ls RX8 cX8_number 2 n0 z0 nF zE d) (IH : zAllM l D cid kv N0 xs Ls d) (hQ : ∀ v h, Qq v h → v = r0 ∧ h = hF) (hn : nF = zN hF) (hz : zE = zZ hF) (hlocks : meth.locks = false) (hr : meth.sig.returnType = (some .int)) : zSoL p l e R s m args below meth c D cid kv N0 xs Ls 2 (MQ below (zQc D cid kv N0 xs Ls ρ0 r0 hF) args s (nF - n0) (zE - z0) (zA N0)) ρ0 n0 z0 nF zE Qq (zCall d) zt821_0 := zc_so (si_aload_n F dX8_number_0 rfl)
  (zc_so (si_cV F (IH 820 mm820) mp820 (by decide) rfl rfl (by decide) tb_851 mi820 ms820 mn820 mc820 dX8_number_1)
  (zc_so (si_ifne F dX8_number_4 rfl)
  (zc_so (si_aload_n F dX8_number_7 rfl)
  (zc_so (si_iconst F dX8_number_8 rfl)
  (zc_so (si_putZ (k := 13) F rfl inT8 (by decide) (by decide) rfl rfl rfl rfl tyX8_ok nmX8 tb_717 dX8_number_9)
  (zc_so (si_iconst F dX8_number_12 rfl)
  (zc_so (si_rI F hQ hn hz hlocks hr (fun _ _ => rfl) dX8_number_13)
  (zc_so (si_aload_n F dX8_number_14 rfl)
  (zc_so (si_getR (k := 10) F rfl inT8 (by decide) (by decide) rfl rfl tb_714 dX8_number_15)
  (zc_so (si_aload_n F dX8_number_18 rfl)
  (zc_so (si_getI (k := 12) F rfl inT8 (by decide) (by decide) rfl rfl tb_716 dX8_number_19)
  (zc_so (si_iaload F dX8_number_22)
  (zc_so (si_bipush F dX8_number_23 rfl)
  (zc_so (si_isub F dX8_number_25)
  (zc_so (si_istore_n F dX8_number_26 rfl)
  (zc_so (si_aload_n F dX8_number_27 rfl)
  (zc_so (si_dup F dX8_number_28)
  (zc_so (si_getI (k := 12) F rfl inT8 (by decide) (by decide) rfl rfl tb_716 dX8_number_29)
  (zc_so (si_iconst F dX8_number_32 rfl)
  (zc_so (si_iadd F dX8_number_33)
  (zc_so (si_putI (k := 12) F rfl inT8 (by decide) (by decide) rfl rfl rfl rfl tyX8_ok nmX8 tb_716 dX8_number_34)
  (zc_so (si_aload_n F dX8_number_37 rfl)
  (zc_so (si_cV F (IH 820 mm820) mp820 (by decide) rfl rfl (by decide) tb_851 mi820 ms820 mn820 mc820 dX8_number_38)
  (zc_so (si_ifeq F dX8_number_41 rfl)
  (zc_so (si_bipush F dX8_number_44 rfl)
  (zc_so (si_iload_n F dX8_number_46 rfl)
  (zc_so (si_imul F dX8_number_47)
  (zc_so (si_aload_n F dX8_number_48 rfl)
  (zc_so (si_getR (k := 10) F rfl inT8 (by decide) (by decide) rfl rfl tb_714 dX8_number_49)
  (zc_so (si_aload_n F dX8_number_52 rfl)
  (zc_so (si_getI (k := 12) F rfl inT8 (by decide) (by decide) rfl rfl tb_716 dX8_number_53)
  (zc_so (si_iaload F dX8_number_56)
  (zc_so (si_iadd F dX8_number_57)
  (zc_so (si_bipush F dX8_number_58 rfl)
  (zc_so (si_isub F dX8_number_60)
  (zc_so (si_istore_n F dX8_number_61 rfl)
  (zc_so (si_aload_n F dX8_number_62 rfl)
  (zc_so (si_dup F dX8_number_63)
  (zc_nil)))))))))))))))))))))))))))))))))))))))
theorem sd821_1 (F : zFx p l R s m args meth c D cid kv N0 xs Ls RX8 cX8_number 2 n0 z0 nF zE d) (IH : zAllM l D cid kv N0 xs Ls d) (hQ : ∀ v h, Qq v h → v = r0 ∧ h = hF) (hn : nF = zN hF) (hz : zE = zZ hF) (hlocks : meth.locks = false) (hr : meth.sig.returnType = (some .int)) : zSoL p l e R s m args below meth c D cid kv N0 xs Ls 2 (MQ below (zQc D cid kv N0 xs Ls ρ0 r0 hF) args s (nF - n0) (zE - z0) (zA N0)) ρ0 n0 z0 nF zE Qq (zCall d) zt821_1 := zc_so (si_getI (k := 12) F rfl inT8 (by decide) (by decide) rfl rfl tb_716 dX8_number_64)
  (zc_so (si_iconst F dX8_number_67 rfl)
  (zc_so (si_iadd F dX8_number_68)
  (zc_so (si_putI (k := 12) F rfl inT8 (by decide) (by decide) rfl rfl rfl rfl tyX8_ok nmX8 tb_716 dX8_number_69)
  (zc_so (si_iload_n F dX8_number_72 rfl)
  (zc_so (si_rI F hQ hn hz hlocks hr (fun _ _ => rfl) dX8_number_73)
  (zc_nil))))))
theorem sd821 (F : zFx p l R s m args meth c D cid kv N0 xs Ls RX8 cX8_number 2 n0 z0 nF zE d) (IH : zAllM l D cid kv N0 xs Ls d) (hQ : ∀ v h, Qq v h → v = r0 ∧ h = hF) (hn : nF = zN hF) (hz : zE = zZ hF) (hlocks : meth.locks = false) (hr : meth.sig.returnType = (some .int)) (pc : Nat) : zSo p l e R s m args below meth c D cid kv N0 xs Ls 2 (MQ below (zQc D cid kv N0 xs Ls ρ0 r0 hF) args s (nF - n0) (zE - z0) (zA N0)) ρ0 n0 z0 nF zE Qq (zCall d) pc (zTab 821 pc) := zc_tab [zt821_0, zt821_1] (zc_cons (sd821_0 F IH hQ hn hz hlocks hr) (zc_cons (sd821_1 F IH hQ hn hz hlocks hr) zc_end))
theorem dX8_test_0 : decode cX8_test 0 = .ok (.iconst (-1), 1) := by decide +kernel
theorem dX8_test_1 : decode cX8_test 1 = .ok (.istore_n 1, 1) := by decide +kernel
theorem dX8_test_2 : decode cX8_test 2 = .ok (.iconst 0, 1) := by decide +kernel
theorem dX8_test_3 : decode cX8_test 3 = .ok (.istore_n 2, 1) := by decide +kernel
theorem dX8_test_4 : decode cX8_test 4 = .ok (.iload_n 2, 1) := by decide +kernel
theorem dX8_test_5 : decode cX8_test 5 = .ok (.bipush 6, 2) := by decide +kernel
theorem dX8_test_7 : decode cX8_test 7 = .ok (.if_icmp .ge 28, 3) := by decide +kernel
theorem dX8_test_10 : decode cX8_test 10 = .ok (.aload_n 0, 1) := by decide +kernel
theorem dX8_test_11 : decode cX8_test 11 = .ok (.aload_n 0, 1) := by decide +kernel
theorem dX8_test_12 : decode cX8_test 12 = .ok (.getfield 44, 3) := by decide +kernel
theorem dX8_test_15 : decode cX8_test 15 = .ok (.iload_n 2, 1) := by decide +kernel
theorem dX8_test_16 : decode cX8_test 16 = .ok (.caload, 1) := by decide +kernel
theorem dX8_test_17 : decode cX8_test 17 = .ok (.invokevirtual 123, 3) := by decide +kernel
theorem dX8_test_20 : decode cX8_test 20 = .ok (.ifCond .eq 7, 3) := by decide +kernel
theorem dX8_test_23 : decode cX8_test 23 = .ok (.iload_n 2, 1) := by decide +kernel
theorem dX8_test_24 : decode cX8_test 24 = .ok (.goto 4, 3) := by decide +kernel
theorem dX8_test_27 : decode cX8_test 27 = .ok (.iload_n 1, 1) := by decide +kernel
theorem dX8_test_28 : decode cX8_test 28 = .ok (.istore_n 1, 1) := by decide +kernel
theorem dX8_test_29 : decode cX8_test 29 = .ok (.iinc 2 1, 3) := by decide +kernel
theorem dX8_test_32 : decode cX8_test 32 = .ok (.goto (-28), 3) := by decide +kernel
theorem dX8_test_35 : decode cX8_test 35 = .ok (.iload_n 1, 1) := by decide +kernel
theorem dX8_test_36 : decode cX8_test 36 = .ok (.iconst (-1), 1) := by decide +kernel
theorem dX8_test_37 : decode cX8_test 37 = .ok (.if_icmp .ne 10, 3) := by decide +kernel
theorem dX8_test_40 : decode cX8_test 40 = .ok (.aload_n 0, 1) := by decide +kernel
theorem dX8_test_41 : decode cX8_test 41 = .ok (.iconst 0, 1) := by decide +kernel
theorem dX8_test_42 : decode cX8_test 42 = .ok (.putfield 114, 3) := by decide +kernel
theorem dX8_test_45 : decode cX8_test 45 = .ok (.iconst 0, 1) := by decide +kernel
theorem dX8_test_46 : decode cX8_test 46 = .ok (.ireturn, 1) := by decide +kernel
theorem dX8_test_47 : decode cX8_test 47 = .ok (.aload_n 0, 1) := by decide +kernel
theorem dX8_test_48 : decode cX8_test 48 = .ok (.dup, 1) := by decide +kernel
theorem dX8_test_49 : decode cX8_test 49 = .ok (.getfield 117, 3) := by decide +kernel
theorem dX8_test_52 : decode cX8_test 52 = .ok (.iconst 1, 1) := by decide +kernel
theorem dX8_test_53 : decode cX8_test 53 = .ok (.iadd, 1) := by decide +kernel
theorem dX8_test_54 : decode cX8_test 54 = .ok (.putfield 117, 3) := by decide +kernel
theorem dX8_test_57 : decode cX8_test 57 = .ok (.aload_n 0, 1) := by decide +kernel
theorem dX8_test_58 : decode cX8_test 58 = .ok (.bipush 60, 2) := by decide +kernel
theorem dX8_test_60 : decode cX8_test 60 = .ok (.invokevirtual 123, 3) := by decide +kernel
theorem dX8_test_63 : decode cX8_test 63 = .ok (.ifCond .eq 7, 3) := by decide +kernel
theorem dX8_test_66 : decode cX8_test 66 = .ok (.iconst (-1), 1) := by decide +kernel
theorem dX8_test_67 : decode cX8_test 67 = .ok (.goto 17, 3) := by decide +kernel
theorem dX8_test_70 : decode cX8_test 70 = .ok (.aload_n 0, 1) := by decide +kernel
theorem dX8_test_71 : decode cX8_test 71 = .ok (.bipush 62, 2) := by decide +kernel
theorem dX8_test_73 : decode cX8_test 73 = .ok (.invokevirtual 123, 3) := by decide +kernel
theorem dX8_test_76 : decode cX8_test 76 = .ok (.ifCond .eq 7, 3) := by decide +kernel
theorem dX8_test_79 : decode cX8_test 79 = .ok (.iconst 1, 1) := by decide +kernel
theorem dX8_test_80 : decode cX8_test 80 = .ok (.goto 4, 3) := by decide +kernel
theorem dX8_test_83 : decode cX8_test 83 = .ok (.iconst 0, 1) := by decide +kernel
theorem dX8_test_84 : decode cX8_test 84 = .ok (.istore_n 2, 1) := by decide +kernel
theorem dX8_test_85 : decode cX8_test 85 = .ok (.aload_n 0, 1) := by decide +kernel
theorem dX8_test_86 : decode cX8_test 86 = .ok (.iload_n 2, 1) := by decide +kernel
theorem dX8_test_87 : decode cX8_test 87 = .ok (.ifCond .ge 8, 3) := by decide +kernel
theorem dX8_test_90 : decode cX8_test 90 = .ok (.bipush 60, 2) := by decide +kernel
theorem dX8_test_92 : decode cX8_test 92 = .ok (.goto 14, 3) := by decide +kernel
theorem dX8_test_95 : decode cX8_test 95 = .ok (.iload_n 2, 1) := by decide +kernel
theorem dX8_test_96 : decode cX8_test 96 = .ok (.ifCond .le 8, 3) := by decide +kernel
theorem dX8_test_99 : decode cX8_test 99 = .ok (.bipush 62, 2) := by decide +kernel
theorem dX8_test_101 : decode cX8_test 101 = .ok (.goto 5, 3) := by decide +kernel
theorem dX8_test_104 : decode cX8_test 104 = .ok (.bipush 61, 2) := by decide +kernel
theorem dX8_test_106 : decode cX8_test 106 = .ok (.invokevirtual 130, 3) := by decide +kernel
theorem dX8_test_109 : decode cX8_test 109 = .ok (.aload_n 0, 1) := by decide +kernel
theorem dX8_test_110 : decode cX8_test 110 = .ok (.invokevirtual 134, 3) := by decide +kernel
theorem dX8_test_113 : decode cX8_test 113 = .ok (.istore_n 3, 1) := by decide +kernel
theorem dX8_test_114 : decode cX8_test 114 = .ok (.iload_n 2, 1) := by decide +kernel
theorem dX8_test_115 : decode cX8_test 115 = .ok (.ifCond .ge 21, 3) := by decide +kernel
theorem dX8_test_118 : decode cX8_test 118 = .ok (.aload_n 0, 1) := by decide +kernel
theorem dX8_test_119 : decode cX8_test 119 = .ok (.getfield 41, 3) := by decide +kernel
theorem dX8_test_122 : decode cX8_test 122 = .ok (.iload_n 1, 1) := by decide +kernel
theorem dX8_test_123 : decode cX8_test 123 = .ok (.iaload, 1) := by decide +kernel
theorem dX8_test_124 : decode cX8_test 124 = .ok (.iload_n 3, 1) := by decide +kernel
theorem dX8_test_125 : decode cX8_test 125 = .ok (.if_icmp .ge 7, 3) := by decide +kernel
theorem dX8_test_128 : decode cX8_test 128 = .ok (.iconst 1, 1) := by decide +kernel
theorem dX8_test_129 : decode cX8_test 129 = .ok (.goto 44, 3) := by decide +kernel
theorem dX8_test_132 : decode cX8_test 132 = .ok (.iconst 0, 1) := by decide +kernel
theorem dX8_test_133 : decode cX8_test 133 = .ok (.goto 40, 3) := by decide +kernel
theorem dX8_test_136 : decode cX8_test 136 = .ok (.iload_n 2, 1) := by decide +kernel
theorem dX8_test_137 : decode cX8_test 137 = .ok (.ifCond .le 21, 3) := by decide +kernel
theorem dX8_test_140 : decode cX8_test 140 = .ok (.aload_n 0, 1) := by decide +kernel
theorem dX8_test_141 : decode cX8_test 141 = .ok (.getfield 41, 3) := by decide +kernel
theorem dX8_test_144 : decode cX8_test 144 = .ok (.iload_n 1, 1) := by decide +kernel
theorem dX8_test_145 : decode cX8_test 145 = .ok (.iaload, 1) := by decide +kernel
theorem dX8_test_146 : decode cX8_test 146 = .ok (.iload_n 3, 1) := by decide +kernel
theorem dX8_test_147 : decode cX8_test 147 = .ok (.if_icmp .le 7, 3) := by decide +kernel
theorem dX8_test_150 : decode cX8_test 150 = .ok (.iconst 1, 1) := by decide +kernel
theorem dX8_test_151 : decode cX8_test 151 = .ok (.goto 22, 3) := by decide +kernel
theorem dX8_test_154 : decode cX8_test 154 = .ok (.iconst 0, 1) := by decide +kernel
theorem dX8_test_155 : decode cX8_test 155 = .ok (.goto 18, 3) := by decide +kernel
theorem dX8_test_158 : decode cX8_test 158 = .ok (.aload_n 0, 1) := by decide +kernel
theorem dX8_test_159 : decode cX8_test 159 = .ok (.getfield 41, 3) := by decide +kernel
theorem dX8_test_162 : decode cX8_test 162 = .ok (.iload_n 1, 1) := by decide +kernel
theorem dX8_test_163 : decode cX8_test 163 = .ok (.iaload, 1) := by decide +kernel
theorem dX8_test_164 : decode cX8_test 164 = .ok (.iload_n 3, 1) := by decide +kernel
theorem dX8_test_165 : decode cX8_test 165 = .ok (.if_icmp .ne 7, 3) := by decide +kernel
theorem dX8_test_168 : decode cX8_test 168 = .ok (.iconst 1, 1) := by decide +kernel
theorem dX8_test_169 : decode cX8_test 169 = .ok (.goto 4, 3) := by decide +kernel
theorem dX8_test_172 : decode cX8_test 172 = .ok (.iconst 0, 1) := by decide +kernel
theorem dX8_test_173 : decode cX8_test 173 = .ok (.ireturn, 1) := by decide +kernel
theorem sd822_0 (F : zFx p l R s m args meth c D cid kv N0 xs Ls RX8 cX8_test 4 n0 z0 nF zE d) (IH : zAllM l D cid kv N0 xs Ls d) (hQ : ∀ v h, Qq v h → v = r0 ∧ h = hF) (hn : nF = zN hF) (hz : zE = zZ hF) (hlocks : meth.locks = false) (hr : meth.sig.returnType = (some .boolean)) : zSoL p l e R s m args below meth c D cid kv N0 xs Ls 4 (MQ below (zQc D cid kv N0 xs Ls ρ0 r0 hF) args s (nF - n0) (zE - z0) (zA N0)) ρ0 n0 z0 nF zE Qq (zCall d) zt822_0 := zc_so (si_iconst F dX8_test_0 rfl)
  (zc_so (si_istore_n F dX8_test_1 rfl)
  (zc_so (si_iconst F dX8_test_2 rfl)
  (zc_so (si_istore_n F dX8_test_3 rfl)
  (zc_so (si_iload_n F dX8_test_4 rfl)
  (zc_so (si_bipush F dX8_test_5 rfl)
  (zc_so (si_icge F dX8_test_7 rfl)
  (zc_so (si_aload_n F dX8_test_10 rfl)
  (zc_so (si_aload_n F dX8_test_11 rfl)
  (zc_so (si_getR (k := 18) F rfl inT8 (by decide) (by decide) rfl rfl tb_722 dX8_test_12)
  (zc_so (si_iload_n F dX8_test_15 rfl)
  (zc_so (si_caload F dX8_test_16)
  (zc_so (si_cV F (IH 818 mm818) mp818 (by decide) rfl rfl (by decide) tb_839 mi818 ms818 mn818 mc818 dX8_test_17)
  (zc_so (si_ifeq F dX8_test_20 rfl)
  (zc_so (si_iload_n F dX8_test_23 rfl)
  (zc_so (si_goto F dX8_test_24 rfl)
  (zc_so (si_iload_n F dX8_test_27 rfl)
  (zc_so (si_istore_n F dX8_test_28 rfl)
  (zc_so (si_iinc F dX8_test_29 rfl)
  (zc_so (si_goto F dX8_test_32 rfl)
  (zc_so (si_iload_n F dX8_test_35 rfl)
  (zc_so (si_iconst F dX8_test_36 rfl)
  (zc_so (si_icne F dX8_test_37 rfl)
  (zc_so (si_aload_n F dX8_test_40 rfl)
  (zc_so (si_iconst F dX8_test_41 rfl)
  (zc_so (si_putZ (k := 13) F rfl inT8 (by decide) (by decide) rfl rfl rfl rfl tyX8_ok nmX8 tb_717 dX8_test_42)
  (zc_so (si_iconst F dX8_test_45 rfl)
  (zc_so (si_rI F hQ hn hz hlocks hr (fun x h => by rcases h with rfl | rfl <;> rfl) dX8_test_46)
  (zc_so (si_aload_n F dX8_test_47 rfl)
  (zc_so (si_dup F dX8_test_48)
  (zc_so (si_getI (k := 12) F rfl inT8 (by decide) (by decide) rfl rfl tb_716 dX8_test_49)
  (zc_so (si_iconst F dX8_test_52 rfl)
  (zc_so (si_iadd F dX8_test_53)
  (zc_so (si_putI (k := 12) F rfl inT8 (by decide) (by decide) rfl rfl rfl rfl tyX8_ok nmX8 tb_716 dX8_test_54)
  (zc_so (si_aload_n F dX8_test_57 rfl)
  (zc_so (si_bipush F dX8_test_58 rfl)
  (zc_so (si_cV F (IH 818 mm818) mp818 (by decide) rfl rfl (by decide) tb_839 mi818 ms818 mn818 mc818 dX8_test_60)
  (zc_so (si_ifeq F dX8_test_63 rfl)
  (zc_nil))))))))))))))))))))))))))))))))))))))
theorem sd822_1 (F : zFx p l R s m args meth c D cid kv N0 xs Ls RX8 cX8_test 4 n0 z0 nF zE d) (IH : zAllM l D cid kv N0 xs Ls d) (hQ : ∀ v h, Qq v h → v = r0 ∧ h = hF) (hn : nF = zN hF) (hz : zE = zZ hF) (hlocks : meth.locks = false) (hr : meth.sig.returnType = (some .boolean)) : zSoL p l e R s m args below meth c D cid kv N0 xs Ls 4 (MQ below (zQc D cid kv N0 xs Ls ρ0 r0 hF) args s (nF - n0) (zE - z0) (zA N0)) ρ0 n0 z0 nF zE Qq (zCall d) zt822_1 := zc_so (si_iconst F dX8_test_66 rfl)
  (zc_so (si_goto F dX8_test_67 rfl)
  (zc_so (si_aload_n F dX8_test_70 rfl)
  (zc_so (si_bipush F dX8_test_71 rfl)
  (zc_so (si_cV F (IH 818 mm818) mp818 (by decide) rfl rfl (by decide) tb_839 mi818 ms818 mn818 mc818 dX8_test_73)
  (zc_so (si_ifeq F dX8_test_76 rfl)
  (zc_so (si_iconst F dX8_test_79 rfl)
  (zc_so (si_goto F dX8_test_80 rfl)
  (zc_so (si_iconst F dX8_test_83 rfl)
  (zc_so (si_istore_n F dX8_test_84 rfl)
  (zc_so (si_aload_n F dX8_test_85 rfl)
  (zc_so (si_iload_n F dX8_test_86 rfl)
  (zc_so (si_ifge F dX8_test_87 rfl)
  (zc_so (si_bipush F dX8_test_90 rfl)
  (zc_so (si_goto F dX8_test_92 rfl)
  (zc_so (si_iload_n F dX8_test_95 rfl)
  (zc_so (si_ifle F dX8_test_96 rfl)
  (zc_so (si_bipush F dX8_test_99 rfl)
  (zc_so (si_goto F dX8_test_101 rfl)
  (zc_so (si_bipush F dX8_test_104 rfl)
  (zc_so (si_cV F (IH 819 mm819) mp819 (by decide) rfl rfl (by decide) tb_843 mi819 ms819 mn819 mc819 dX8_test_106)
  (zc_so (si_aload_n F dX8_test_109 rfl)
  (zc_so (si_cV F (IH 821 mm821) mp821 (by decide) rfl rfl (by decide) tb_847 mi821 ms821 mn821 mc821 dX8_test_110)
  (zc_so (si_istore_n F dX8_test_113 rfl)
  (zc_so (si_iload_n F dX8_test_114 rfl)
  (zc_so (si_ifge F dX8_test_115 rfl)
  (zc_so (si_aload_n F dX8_test_118 rfl)
  (zc_so (si_getR (k := 17) F rfl inT8 (by decide) (by decide) rfl rfl tb_721 dX8_test_119)
  (zc_so (si_iload_n F dX8_test_122 rfl)
  (zc_so (si_iaload F dX8_test_123)
  (zc_so (si_iload_n F dX8_test_124 rfl)
  (zc_so (si_icge F dX8_test_125 rfl)
  (zc_nil))))))))))))))))))))))))))))))))
theorem sd822_2 (F : zFx p l R s m args meth c D cid kv N0 xs Ls RX8 cX8_test 4 n0 z0 nF zE d) (IH : zAllM l D cid kv N0 xs Ls d) (hQ : ∀ v h, Qq v h → v = r0 ∧ h = hF) (hn : nF = zN hF) (hz : zE = zZ hF) (hlocks : meth.locks = false) (hr : meth.sig.returnType = (some .boolean)) : zSoL p l e R s m args below meth c D cid kv N0 xs Ls 4 (MQ below (zQc D cid kv N0 xs Ls ρ0 r0 hF) args s (nF - n0) (zE - z0) (zA N0)) ρ0 n0 z0 nF zE Qq (zCall d) zt822_2 := zc_so (si_iconst F dX8_test_128 rfl)
  (zc_so (si_goto F dX8_test_129 rfl)
  (zc_so (si_iconst F dX8_test_132 rfl)
  (zc_so (si_goto F dX8_test_133 rfl)
  (zc_so (si_iload_n F dX8_test_136 rfl)
  (zc_so (si_ifle F dX8_test_137 rfl)
  (zc_so (si_aload_n F dX8_test_140 rfl)
  (zc_so (si_getR (k := 17) F rfl inT8 (by decide) (by decide) rfl rfl tb_721 dX8_test_141)
  (zc_so (si_iload_n F dX8_test_144 rfl)
  (zc_so (si_iaload F dX8_test_145)
  (zc_so (si_iload_n F dX8_test_146 rfl)
  (zc_so (si_icle F dX8_test_147 rfl)
  (zc_so (si_iconst F dX8_test_150 rfl)
  (zc_so (si_goto F dX8_test_151 rfl)
  (zc_so (si_iconst F dX8_test_154 rfl)
  (zc_so (si_goto F dX8_test_155 rfl)
  (zc_so (si_aload_n F dX8_test_158 rfl)
  (zc_so (si_getR (k := 17) F rfl inT8 (by decide) (by decide) rfl rfl tb_721 dX8_test_159)
  (zc_so (si_iload_n F dX8_test_162 rfl)
  (zc_so (si_iaload F dX8_test_163)
  (zc_so (si_iload_n F dX8_test_164 rfl)
  (zc_so (si_icne F dX8_test_165 rfl)
  (zc_so (si_iconst F dX8_test_168 rfl)
  (zc_so (si_goto F dX8_test_169 rfl)
  (zc_so (si_iconst F dX8_test_172 rfl)
  (zc_so (si_rI F hQ hn hz hlocks hr (fun x h => by rcases h with rfl | rfl <;> rfl) dX8_test_173)
  (zc_nil))))))))))))))))))))))))))
theorem sd822 (F : zFx p l R s m args meth c D cid kv N0 xs Ls RX8 cX8_test 4 n0 z0 nF zE d) (IH : zAllM l D cid kv N0 xs Ls d) (hQ : ∀ v h, Qq v h → v = r0 ∧ h = hF) (hn : nF = zN hF) (hz : zE = zZ hF) (hlocks : meth.locks = false) (hr : meth.sig.returnType = (some .boolean)) (pc : Nat) : zSo p l e R s m args below meth c D cid kv N0 xs Ls 4 (MQ below (zQc D cid kv N0 xs Ls ρ0 r0 hF) args s (nF - n0) (zE - z0) (zA N0)) ρ0 n0 z0 nF zE Qq (zCall d) pc (zTab 822 pc) := zc_tab [zt822_0, zt822_1, zt822_2] (zc_cons (sd822_0 F IH hQ hn hz hlocks hr) (zc_cons (sd822_1 F IH hQ hn hz hlocks hr) (zc_cons (sd822_2 F IH hQ hn hz hlocks hr) zc_end)))
theorem dX8_factor_0 : decode cX8_factor 0 = .ok (.aload_n 0, 1) := by decide +kernel
theorem dX8_factor_1 : decode cX8_factor 1 = .ok (.getfield 138, 3) := by decide +kernel
theorem dX8_factor_4 : decode cX8_factor 4 = .ok (.iconst 4, 1) := by decide +kernel
theorem dX8_factor_5 : decode cX8_factor 5 = .ok (.if_icmp .ge 58, 3) := by decide +kernel
theorem dX8_factor_8 : decode cX8_factor 8 = .ok (.aload_n 0, 1) := by decide +kernel
theorem dX8_factor_9 : decode cX8_factor 9 = .ok (.bipush 33, 2) := by decide +kernel
theorem dX8_factor_11 : decode cX8_factor 11 = .ok (.invokevirtual 123, 3) := by decide +kernel
theorem dX8_factor_14 : decode cX8_factor 14 = .ok (.ifCond .eq 49, 3) := by decide +kernel
theorem dX8_factor_17 : decode cX8_factor 17 = .ok (.aload_n 0, 1) := by decide +kernel
theorem dX8_factor_18 : decode cX8_factor 18 = .ok (.dup, 1) := by decide +kernel
theorem dX8_factor_19 : decode cX8_factor 19 = .ok (.getfield 117, 3) := by decide +kernel
theorem dX8_factor_22 : decode cX8_factor 22 = .ok (.iconst 1, 1) := by decide +kernel
theorem dX8_factor_23 : decode cX8_factor 23 = .ok (.iadd, 1) := by decide +kernel
theorem dX8_factor_24 : decode cX8_factor 24 = .ok (.putfield 117, 3) := by decide +kernel
theorem dX8_factor_27 : decode cX8_factor 27 = .ok (.aload_n 0, 1) := by decide +kernel
theorem dX8_factor_28 : decode cX8_factor 28 = .ok (.dup, 1) := by decide +kernel
theorem dX8_factor_29 : decode cX8_factor 29 = .ok (.getfield 138, 3) := by decide +kernel
theorem dX8_factor_32 : decode cX8_factor 32 = .ok (.iconst 1, 1) := by decide +kernel
theorem dX8_factor_33 : decode cX8_factor 33 = .ok (.iadd, 1) := by decide +kernel
theorem dX8_factor_34 : decode cX8_factor 34 = .ok (.putfield 138, 3) := by decide +kernel
theorem dX8_factor_37 : decode cX8_factor 37 = .ok (.aload_n 0, 1) := by decide +kernel
theorem dX8_factor_38 : decode cX8_factor 38 = .ok (.invokevirtual 141, 3) := by decide +kernel
theorem dX8_factor_41 : decode cX8_factor 41 = .ok (.ifCond .ne 7, 3) := by decide +kernel
theorem dX8_factor_44 : decode cX8_factor 44 = .ok (.iconst 1, 1) := by decide +kernel
theorem dX8_factor_45 : decode cX8_factor 45 = .ok (.goto 4, 3) := by decide +kernel
theorem dX8_factor_48 : decode cX8_factor 48 = .ok (.iconst 0, 1) := by decide +kernel
theorem dX8_factor_49 : decode cX8_factor 49 = .ok (.istore_n 1, 1) := by decide +kernel
theorem dX8_factor_50 : decode cX8_factor 50 = .ok (.aload_n 0, 1) := by decide +kernel
theorem dX8_factor_51 : decode cX8_factor 51 = .ok (.dup, 1) := by decide +kernel
theorem dX8_factor_52 : decode cX8_factor 52 = .ok (.getfield 138, 3) := by decide +kernel
theorem dX8_factor_55 : decode cX8_factor 55 = .ok (.iconst 1, 1) := by decide +kernel
theorem dX8_factor_56 : decode cX8_factor 56 = .ok (.isub, 1) := by decide +kernel
theorem dX8_factor_57 : decode cX8_factor 57 = .ok (.putfield 138, 3) := by decide +kernel
theorem dX8_factor_60 : decode cX8_factor 60 = .ok (.goto 69, 3) := by decide +kernel
theorem dX8_factor_63 : decode cX8_factor 63 = .ok (.aload_n 0, 1) := by decide +kernel
theorem dX8_factor_64 : decode cX8_factor 64 = .ok (.getfield 138, 3) := by decide +kernel
theorem dX8_factor_67 : decode cX8_factor 67 = .ok (.iconst 4, 1) := by decide +kernel
theorem dX8_factor_68 : decode cX8_factor 68 = .ok (.if_icmp .ge 56, 3) := by decide +kernel
theorem dX8_factor_71 : decode cX8_factor 71 = .ok (.aload_n 0, 1) := by decide +kernel
theorem dX8_factor_72 : decode cX8_factor 72 = .ok (.bipush 40, 2) := by decide +kernel
theorem dX8_factor_74 : decode cX8_factor 74 = .ok (.invokevirtual 123, 3) := by decide +kernel
theorem dX8_factor_77 : decode cX8_factor 77 = .ok (.ifCond .eq 47, 3) := by decide +kernel
theorem dX8_factor_80 : decode cX8_factor 80 = .ok (.aload_n 0, 1) := by decide +kernel
theorem dX8_factor_81 : decode cX8_factor 81 = .ok (.dup, 1) := by decide +kernel
theorem dX8_factor_82 : decode cX8_factor 82 = .ok (.getfield 117, 3) := by decide +kernel
theorem dX8_factor_85 : decode cX8_factor 85 = .ok (.iconst 1, 1) := by decide +kernel
theorem dX8_factor_86 : decode cX8_factor 86 = .ok (.iadd, 1) := by decide +kernel
theorem dX8_factor_87 : decode cX8_factor 87 = .ok (.putfield 117, 3) := by decide +kernel
theorem dX8_factor_90 : decode cX8_factor 90 = .ok (.aload_n 0, 1) := by decide +kernel
theorem dX8_factor_91 : decode cX8_factor 91 = .ok (.dup, 1) := by decide +kernel
theorem dX8_factor_92 : decode cX8_factor 92 = .ok (.getfield 138, 3) := by decide +kernel
theorem dX8_factor_95 : decode cX8_factor 95 = .ok (.iconst 1, 1) := by decide +kernel
theorem dX8_factor_96 : decode cX8_factor 96 = .ok (.iadd, 1) := by decide +kernel
theorem dX8_factor_97 : decode cX8_factor 97 = .ok (.putfield 138, 3) := by decide +kernel
theorem dX8_factor_100 : decode cX8_factor 100 = .ok (.aload_n 0, 1) := by decide +kernel
theorem dX8_factor_101 : decode cX8_factor 101 = .ok (.invokevirtual 144, 3) := by decide +kernel
theorem dX8_factor_104 : decode cX8_factor 104 = .ok (.istore_n 1, 1) := by decide +kernel
theorem dX8_factor_105 : decode cX8_factor 105 = .ok (.aload_n 0, 1) := by decide +kernel
theorem dX8_factor_106 : decode cX8_factor 106 = .ok (.dup, 1) := by decide +kernel
theorem dX8_factor_107 : decode cX8_factor 107 = .ok (.getfield 138, 3) := by decide +kernel
theorem dX8_factor_110 : decode cX8_factor 110 = .ok (.iconst 1, 1) := by decide +kernel
theorem dX8_factor_111 : decode cX8_factor 111 = .ok (.isub, 1) := by decide +kernel
theorem dX8_factor_112 : decode cX8_factor 112 = .ok (.putfield 138, 3) := by decide +kernel
theorem dX8_factor_115 : decode cX8_factor 115 = .ok (.aload_n 0, 1) := by decide +kernel
theorem dX8_factor_116 : decode cX8_factor 116 = .ok (.bipush 41, 2) := by decide +kernel
theorem dX8_factor_118 : decode cX8_factor 118 = .ok (.invokevirtual 130, 3) := by decide +kernel
theorem dX8_factor_121 : decode cX8_factor 121 = .ok (.goto 8, 3) := by decide +kernel
theorem dX8_factor_124 : decode cX8_factor 124 = .ok (.aload_n 0, 1) := by decide +kernel
theorem dX8_factor_125 : decode cX8_factor 125 = .ok (.invokevirtual 147, 3) := by decide +kernel
theorem dX8_factor_128 : decode cX8_factor 128 = .ok (.istore_n 1, 1) := by decide +kernel
theorem dX8_factor_129 : decode cX8_factor 129 = .ok (.iload_n 1, 1) := by decide +kernel
theorem dX8_factor_130 : decode cX8_factor 130 = .ok (.ireturn, 1) := by decide +kernel
theorem sd823_0 (F : zFx p l R s m args meth c D cid kv N0 xs Ls RX8 cX8_factor 2 n0 z0 nF zE d) (IH : zAllM l D cid kv N0 xs Ls d) (hQ : ∀ v h, Qq v h → v = r0 ∧ h = hF) (hn : nF = zN hF) (hz : zE = zZ hF) (hlocks : meth.locks = false) (hr : meth.sig.returnType = (some .boolean)) : zSoL p l e R s m args below meth c D cid kv N0 xs Ls 2 (MQ below (zQc D cid kv N0 xs Ls ρ0 r0 hF) args s (nF - n0) (zE - z0) (zA N0)) ρ0 n0 z0 nF zE Qq (zCall d) zt823_0 := zc_so (si_aload_n F dX8_factor_0 rfl)
  (zc_so (si_getI (k := 14) F rfl inT8 (by decide) (by decide) rfl rfl tb_718 dX8_factor_1)
  (zc_so (si_iconst F dX8_factor_4 rfl)
  (zc_so (si_icge F dX8_factor_5 rfl)
  (zc_so (si_aload_n F dX8_factor_8 rfl)
  (zc_so (si_bipush F dX8_factor_9 rfl)
  (zc_so (si_cV F (IH 818 mm818) mp818 (by decide) rfl rfl (by decide) tb_839 mi818 ms818 mn818 mc818 dX8_factor_11)
  (zc_so (si_ifeq F dX8_factor_14 rfl)
  (zc_so (si_aload_n F dX8_factor_17 rfl)
  (zc_so (si_dup F dX8_factor_18)
  (zc_so (si_getI (k := 12) F rfl inT8 (by decide) (by decide) rfl rfl tb_716 dX8_factor_19)
  (zc_so (si_iconst F dX8_factor_22 rfl)
  (zc_so (si_iadd F dX8_factor_23)
  (zc_so (si_putI (k := 12) F rfl inT8 (by decide) (by decide) rfl rfl rfl rfl tyX8_ok nmX8 tb_716 dX8_factor_24)
  (zc_so (si_aload_n F dX8_factor_27 rfl)
  (zc_so (si_dup F dX8_factor_28)
  (zc_so (si_getI (k := 14) F rfl inT8 (by decide) (by decide) rfl rfl tb_718 dX8_factor_29)
  (zc_so (si_iconst F dX8_factor_32 rfl)
  (zc_so (si_iadd F dX8_factor_33)
  (zc_so (si_putI (k := 14) F rfl inT8 (by decide) (by decide) rfl rfl rfl rfl tyX8_ok nmX8 tb_718 dX8_factor_34)
  (zc_so (si_aload_n F dX8_factor_37 rfl)
  (zc_so (si_cV F (IH 823 mm823) mp823 (by decide) rfl rfl (by decide) tb_863 mi823 ms823 mn823 mc823 dX8_factor_38)
  (zc_so (si_ifne F dX8_factor_41 rfl)
  (zc_so (si_iconst F dX8_factor_44 rfl)
  (zc_so (si_goto F dX8_factor_45 rfl)
  (zc_so (si_iconst F dX8_factor_48 rfl)
  (zc_so (si_istore_n F dX8_factor_49 rfl)
  (zc_so (si_aload_n F dX8_factor_50 rfl)
  (zc_so (si_dup F dX8_factor_51)
  (zc_so (si_getI (k := 14) F rfl inT8 (by decide) (by decide) rfl rfl tb_718 dX8_factor_52)
  (zc_so (si_iconst F dX8_factor_55 rfl)
  (zc_so (si_isub F dX8_factor_56)
  (zc_so (si_putI (k := 14) F rfl inT8 (by decide) (by decide) rfl rfl rfl rfl tyX8_ok nmX8 tb_718 dX8_factor_57)
  (zc_so (si_goto F dX8_factor_60 rfl)
  (zc_so (si_aload_n F dX8_factor_63 rfl)
  (zc_nil)))))))))))))))))))))))))))))))))))
theorem sd823_1 (F : zFx p l R s m args meth c D cid kv N0 xs Ls RX8 cX8_factor 2 n0 z0 nF zE d) (IH : zAllM l D cid kv N0 xs Ls d) (hQ : ∀ v h, Qq v h → v = r0 ∧ h = hF) (hn : nF = zN hF) (hz : zE = zZ hF) (hlocks : meth.locks = false) (hr : meth.sig.returnType = (some .boolean)) : zSoL p l e R s m args below meth c D cid kv N0 xs Ls 2 (MQ below (zQc D cid kv N0 xs Ls ρ0 r0 hF) args s (nF - n0) (zE - z0) (zA N0)) ρ0 n0 z0 nF zE Qq (zCall d) zt823_1 := zc_so (si_getI (k := 14) F rfl inT8 (by decide) (by decide) rfl rfl tb_718 dX8_factor_64)
  (zc_so (si_iconst F dX8_factor_67 rfl)
  (zc_so (si_icge F dX8_factor_68 rfl)
  (zc_so (si_aload_n F dX8_factor_71 rfl)
  (zc_so (si_bipush F dX8_factor_72 rfl)
  (zc_so (si_cV F (IH 818 mm818) mp818 (by decide) rfl rfl (by decide) tb_839 mi818 ms818 mn818 mc818 dX8_factor_74)
  (zc_so (si_ifeq F dX8_factor_77 rfl)
  (zc_so (si_aload_n F dX8_factor_80 rfl)
  (zc_so (si_dup F dX8_factor_81)
  (zc_so (si_getI (k := 12) F rfl inT8 (by decide) (by decide) rfl rfl tb_716 dX8_factor_82)
  (zc_so (si_iconst F dX8_factor_85 rfl)
  (zc_so (si_iadd F dX8_factor_86)
  (zc_so (si_putI (k := 12) F rfl inT8 (by decide) (by decide) rfl rfl rfl rfl tyX8_ok nmX8 tb_716 dX8_factor_87)
  (zc_so (si_aload_n F dX8_factor_90 rfl)
  (zc_so (si_dup F dX8_factor_91)
  (zc_so (si_getI (k := 14) F rfl inT8 (by decide) (by decide) rfl rfl tb_718 dX8_factor_92)
  (zc_so (si_iconst F dX8_factor_95 rfl)
  (zc_so (si_iadd F dX8_factor_96)
  (zc_so (si_putI (k := 14) F rfl inT8 (by decide) (by decide) rfl rfl rfl rfl tyX8_ok nmX8 tb_718 dX8_factor_97)
  (zc_so (si_aload_n F dX8_factor_100 rfl)
  (zc_so (si_cV F (IH 825 mm825) mp825 (by decide) rfl rfl (by decide) tb_855 mi825 ms825 mn825 mc825 dX8_factor_101)
  (zc_so (si_istore_n F dX8_factor_104 rfl)
  (zc_so (si_aload_n F dX8_factor_105 rfl)
  (zc_so (si_dup F dX8_factor_106)
  (zc_so (si_getI (k := 14) F rfl inT8 (by decide) (by decide) rfl rfl tb_718 dX8_factor_107)
  (zc_so (si_iconst F dX8_factor_110 rfl)
  (zc_so (si_isub F dX8_factor_111)
  (zc_so (si_putI (k := 14) F rfl inT8 (by decide) (by decide) rfl rfl rfl rfl tyX8_ok nmX8 tb_718 dX8_factor_112)
  (zc_so (si_aload_n F dX8_factor_115 rfl)
  (zc_so (si_bipush F dX8_factor_116 rfl)
  (zc_so (si_cV F (IH 819 mm819) mp819 (by decide) rfl rfl (by decide) tb_843 mi819 ms819 mn819 mc819 dX8_factor_118)
  (zc_so (si_goto F dX8_factor_121 rfl)
  (zc_so (si_aload_n F dX8_factor_124 rfl)
  (zc_so (si_cV F (IH 822 mm822) mp822 (by decide) rfl rfl (by decide) tb_867 mi822 ms822 mn822 mc822 dX8_factor_125)
  (zc_nil))))))))))))))))))))))))))))))))))
theorem sd823_2 (F : zFx p l R s m args meth c D cid kv N0 xs Ls RX8 cX8_factor 2 n0 z0 nF zE d) (IH : zAllM l D cid kv N0 xs Ls d) (hQ : ∀ v h, Qq v h → v = r0 ∧ h = hF) (hn : nF = zN hF) (hz : zE = zZ hF) (hlocks : meth.locks = false) (hr : meth.sig.returnType = (some .boolean)) : zSoL p l e R s m args below meth c D cid kv N0 xs Ls 2 (MQ below (zQc D cid kv N0 xs Ls ρ0 r0 hF) args s (nF - n0) (zE - z0) (zA N0)) ρ0 n0 z0 nF zE Qq (zCall d) zt823_2 := zc_so (si_istore_n F dX8_factor_128 rfl)
  (zc_so (si_iload_n F dX8_factor_129 rfl)
  (zc_so (si_rI F hQ hn hz hlocks hr (fun x h => by rcases h with rfl | rfl <;> rfl) dX8_factor_130)
  (zc_nil)))
theorem sd823 (F : zFx p l R s m args meth c D cid kv N0 xs Ls RX8 cX8_factor 2 n0 z0 nF zE d) (IH : zAllM l D cid kv N0 xs Ls d) (hQ : ∀ v h, Qq v h → v = r0 ∧ h = hF) (hn : nF = zN hF) (hz : zE = zZ hF) (hlocks : meth.locks = false) (hr : meth.sig.returnType = (some .boolean)) (pc : Nat) : zSo p l e R s m args below meth c D cid kv N0 xs Ls 2 (MQ below (zQc D cid kv N0 xs Ls ρ0 r0 hF) args s (nF - n0) (zE - z0) (zA N0)) ρ0 n0 z0 nF zE Qq (zCall d) pc (zTab 823 pc) := zc_tab [zt823_0, zt823_1, zt823_2] (zc_cons (sd823_0 F IH hQ hn hz hlocks hr) (zc_cons (sd823_1 F IH hQ hn hz hlocks hr) (zc_cons (sd823_2 F IH hQ hn hz hlocks hr) zc_end)))
theorem dX8_both_0 : decode cX8_both 0 = .ok (.aload_n 0, 1) := by decide +kernel
theorem dX8_both_1 : decode cX8_both 1 = .ok (.invokevirtual 141, 3) := by decide +kernel
theorem dX8_both_4 : decode cX8_both 4 = .ok (.istore_n 1, 1) := by decide +kernel
theorem dX8_both_5 : decode cX8_both 5 = .ok (.aload_n 0, 1) := by decide +kernel
theorem dX8_both_6 : decode cX8_both 6 = .ok (.bipush 38, 2) := by decide +kernel
theorem dX8_both_8 : decode cX8_both 8 = .ok (.invokevirtual 123, 3) := by decide +kernel
theorem dX8_both_11 : decode cX8_both 11 = .ok (.ifCond .eq 35, 3) := by decide +kernel
theorem dX8_both_14 : decode cX8_both 14 = .ok (.aload_n 0, 1) := by decide +kernel
theorem dX8_both_15 : decode cX8_both 15 = .ok (.dup, 1) := by decide +kernel
theorem dX8_both_16 : decode cX8_both 16 = .ok (.getfield 117, 3) := by decide +kernel
theorem dX8_both_19 : decode cX8_both 19 = .ok (.iconst 1, 1) := by decide +kernel
theorem dX8_both_20 : decode cX8_both 20 = .ok (.iadd, 1) := by decide +kernel
theorem dX8_both_21 : decode cX8_both 21 = .ok (.putfield 117, 3) := by decide +kernel
theorem dX8_both_24 : decode cX8_both 24 = .ok (.aload_n 0, 1) := by decide +kernel
theorem dX8_both_25 : decode cX8_both 25 = .ok (.invokevirtual 141, 3) := by decide +kernel
theorem dX8_both_28 : decode cX8_both 28 = .ok (.istore_n 2, 1) := by decide +kernel
theorem dX8_both_29 : decode cX8_both 29 = .ok (.iload_n 1, 1) := by decide +kernel
theorem dX8_both_30 : decode cX8_both 30 = .ok (.ifCond .eq 11, 3) := by decide +kernel
theorem dX8_both_33 : decode cX8_both 33 = .ok (.iload_n 2, 1) := by decide +kernel
theorem dX8_both_34 : decode cX8_both 34 = .ok (.ifCond .eq 7, 3) := by decide +kernel
theorem dX8_both_37 : decode cX8_both 37 = .ok (.iconst 1, 1) := by decide +kernel
theorem dX8_both_38 : decode cX8_both 38 = .ok (.goto 4, 3) := by decide +kernel
theorem dX8_both_41 : decode cX8_both 41 = .ok (.iconst 0, 1) := by decide +kernel
theorem dX8_both_42 : decode cX8_both 42 = .ok (.istore_n 1, 1) := by decide +kernel
theorem dX8_both_43 : decode cX8_both 43 = .ok (.goto (-38), 3) := by decide +kernel
theorem dX8_both_46 : decode cX8_both 46 = .ok (.iload_n 1, 1) := by decide +kernel
theorem dX8_both_47 : decode cX8_both 47 = .ok (.ireturn, 1) := by decide +kernel
theorem sd824_0 (F : zFx p l R s m args meth c D cid kv N0 xs Ls RX8 cX8_both 3 n0 z0 nF zE d) (IH : zAllM l D cid kv N0 xs Ls d) (hQ : ∀ v h, Qq v h → v = r0 ∧ h = hF) (hn : nF = zN hF) (hz : zE = zZ hF) (hlocks : meth.locks = false) (hr : meth.sig.returnType = (some .boolean)) : zSoL p l e R s m args below meth c D cid kv N0 xs Ls 3 (MQ below (zQc D cid kv N0 xs Ls ρ0 r0 hF) args s (nF - n0) (zE - z0) (zA N0)) ρ0 n0 z0 nF zE Qq (zCall d) zt824_0 := zc_so (si_aload_n F dX8_both_0 rfl)
  (zc_so (si_cV F (IH 823 mm823) mp823 (by decide) rfl rfl (by decide) tb_863 mi823 ms823 mn823 mc823 dX8_both_1)
  (zc_so (si_istore_n F dX8_both_4 rfl)
  (zc_so (si_aload_n F dX8_both_5 rfl)
  (zc_so (si_bipush F dX8_both_6 rfl)
  (zc_so (si_cV F (IH 818 mm818) mp818 (by decide) rfl rfl (by decide) tb_839 mi818 ms818 mn818 mc818 dX8_both_8)
  (zc_so (si_ifeq F dX8_both_11 rfl)
  (zc_so (si_aload_n F dX8_both_14 rfl)
  (zc_so (si_dup F dX8_both_15)
  (zc_so (si_getI (k := 12) F rfl inT8 (by decide) (by decide) rfl rfl tb_716 dX8_both_16)
  (zc_so (si_iconst F dX8_both_19 rfl)
  (zc_so (si_iadd F dX8_both_20)
  (zc_so (si_putI (k := 12) F rfl inT8 (by decide) (by decide) rfl rfl rfl rfl tyX8_ok nmX8 tb_716 dX8_both_21)
  (zc_so (si_aload_n F dX8_both_24 rfl)
  (zc_so (si_cV F (IH 823 mm823) mp823 (by decide) rfl rfl (by decide) tb_863 mi823 ms823 mn823 mc823 dX8_both_25)
  (zc_so (si_istore_n F dX8_both_28 rfl)
  (zc_so (si_iload_n F dX8_both_29 rfl)
  (zc_so (si_ifeq F dX8_both_30 rfl)
  (zc_so (si_iload_n F dX8_both_33 rfl)
  (zc_so (si_ifeq F dX8_both_34 rfl)
  (zc_so (si_iconst F dX8_both_37 rfl)
  (zc_so (si_goto F dX8_both_38 rfl)
  (zc_so (si_iconst F dX8_both_41 rfl)
  (zc_so (si_istore_n F dX8_both_42 rfl)
  (zc_so (si_goto F dX8_both_43 rfl)
  (zc_so (si_iload_n F dX8_both_46 rfl)
  (zc_so (si_rI F hQ hn hz hlocks hr (fun x h => by rcases h with rfl | rfl <;> rfl) dX8_both_47)
  (zc_nil)))))))))))))))))))))))))))
theorem sd824 (F : zFx p l R s m args meth c D cid kv N0 xs Ls RX8 cX8_both 3 n0 z0 nF zE d) (IH : zAllM l D cid kv N0 xs Ls d) (hQ : ∀ v h, Qq v h → v = r0 ∧ h = hF) (hn : nF = zN hF) (hz : zE = zZ hF) (hlocks : meth.locks = false) (hr : meth.sig.returnType = (some .boolean)) (pc : Nat) : zSo p l e R s m args below meth c D cid kv N0 xs Ls 3 (MQ below (zQc D cid kv N0 xs Ls ρ0 r0 hF) args s (nF - n0) (zE - z0) (zA N0)) ρ0 n0 z0 nF zE Qq (zCall d) pc (zTab 824 pc) := zc_tab [zt824_0] (zc_cons (sd824_0 F IH hQ hn hz hlocks hr) zc_end)
theorem dX8_any_0 : decode cX8_any 0 = .ok (.aload_n 0, 1) := by decide +kernel
theorem dX8_any_1 : decode cX8_any 1 = .ok (.invokevirtual 150, 3) := by decide +kernel
theorem dX8_any_4 : decode cX8_any 4 = .ok (.istore_n 1, 1) := by decide +kernel
theorem dX8_any_5 : decode cX8_any 5 = .ok (.aload_n 0, 1) := by decide +kernel
theorem dX8_any_6 : decode cX8_any 6 = .ok (.bipush 124, 2) := by decide +kernel
theorem dX8_any_8 : decode cX8_any 8 = .ok (.invokevirtual 123, 3) := by decide +kernel
theorem dX8_any_11 : decode cX8_any 11 = .ok (.ifCond .eq 35, 3) := by decide +kernel
theorem dX8_any_14 : decode cX8_any 14 = .ok (.aload_n 0, 1) := by decide +kernel
theorem dX8_any_15 : decode cX8_any 15 = .ok (.dup, 1) := by decide +kernel
theorem dX8_any_16 : decode cX8_any 16 = .ok (.getfield 117, 3) := by decide +kernel
theorem dX8_any_19 : decode cX8_any 19 = .ok (.iconst 1, 1) := by decide +kernel
theorem dX8_any_20 : decode cX8_any 20 = .ok (.iadd, 1) := by decide +kernel
theorem dX8_any_21 : decode cX8_any 21 = .ok (.putfield 117, 3) := by decide +kernel
theorem dX8_any_24 : decode cX8_any 24 = .ok (.aload_n 0, 1) := by decide +kernel
theorem dX8_any_25 : decode cX8_any 25 = .ok (.invokevirtual 150, 3) := by decide +kernel
theorem dX8_any_28 : decode cX8_any 28 = .ok (.istore_n 2, 1) := by decide +kernel
theorem dX8_any_29 : decode cX8_any 29 = .ok (.iload_n 1, 1) := by decide +kernel
theorem dX8_any_30 : decode cX8_any 30 = .ok (.ifCond .ne 7, 3) := by decide +kernel
theorem dX8_any_33 : decode cX8_any 33 = .ok (.iload_n 2, 1) := by decide +kernel
theorem dX8_any_34 : decode cX8_any 34 = .ok (.ifCond .eq 7, 3) := by decide +kernel
theorem dX8_any_37 : decode cX8_any 37 = .ok (.iconst 1, 1) := by decide +kernel
theorem dX8_any_38 : decode cX8_any 38 = .ok (.goto 4, 3) := by decide +kernel
theorem dX8_any_41 : decode cX8_any 41 = .ok (.iconst 0, 1) := by decide +kernel
theorem dX8_any_42 : decode cX8_any 42 = .ok (.istore_n 1, 1) := by decide +kernel
theorem dX8_any_43 : decode cX8_any 43 = .ok (.goto (-38), 3) := by decide +kernel
theorem dX8_any_46 : decode cX8_any 46 = .ok (.iload_n 1, 1) := by decide +kernel
theorem dX8_any_47 : decode cX8_any 47 = .ok (.ireturn, 1) := by decide +kernel
theorem sd825_0 (F : zFx p l R s m args meth c D cid kv N0 xs Ls RX8 cX8_any 3 n0 z0 nF zE d) (IH : zAllM l D cid kv N0 xs Ls d) (hQ : ∀ v h, Qq v h → v = r0 ∧ h = hF) (hn : nF = zN hF) (hz : zE = zZ hF) (hlocks : meth.locks = false) (hr : meth.sig.returnType = (some .boolean)) : zSoL p l e R s m args below meth c D cid kv N0 xs Ls 3 (MQ below (zQc D cid kv N0 xs Ls ρ0 r0 hF) args s (nF - n0) (zE - z0) (zA N0)) ρ0 n0 z0 nF zE Qq (zCall d) zt825_0 := zc_so (si_aload_n F dX8_any_0 rfl)
  (zc_so (si_cV F (IH 824 mm824) mp824 (by decide) rfl rfl (by decide) tb_859 mi824 ms824 mn824 mc824 dX8_any_1)
  (zc_so (si_istore_n F dX8_any_4 rfl)
  (zc_so (si_aload_n F dX8_any_5 rfl)
  (zc_so (si_bipush F dX8_any_6 rfl)
  (zc_so (si_cV F (IH 818 mm818) mp818 (by decide) rfl rfl (by decide) tb_839 mi818 ms818 mn818 mc818 dX8_any_8)
  (zc_so (si_ifeq F dX8_any_11 rfl)
  (zc_so (si_aload_n F dX8_any_14 rfl)
  (zc_so (si_dup F dX8_any_15)
  (zc_so (si_getI (k := 12) F rfl inT8 (by decide) (by decide) rfl rfl tb_716 dX8_any_16)
  (zc_so (si_iconst F dX8_any_19 rfl)
  (zc_so (si_iadd F dX8_any_20)
  (zc_so (si_putI (k := 12) F rfl inT8 (by decide) (by decide) rfl rfl rfl rfl tyX8_ok nmX8 tb_716 dX8_any_21)
  (zc_so (si_aload_n F dX8_any_24 rfl)
  (zc_so (si_cV F (IH 824 mm824) mp824 (by decide) rfl rfl (by decide) tb_859 mi824 ms824 mn824 mc824 dX8_any_25)
  (zc_so (si_istore_n F dX8_any_28 rfl)
  (zc_so (si_iload_n F dX8_any_29 rfl)
  (zc_so (si_ifne F dX8_any_30 rfl)
  (zc_so (si_iload_n F dX8_any_33 rfl)
  (zc_so (si_ifeq F dX8_any_34 rfl)
  (zc_so (si_iconst F dX8_any_37 rfl)
  (zc_so (si_goto F dX8_any_38 rfl)
  (zc_so (si_iconst F dX8_any_41 rfl)
  (zc_so (si_istore_n F dX8_any_42 rfl)
  (zc_so (si_goto F dX8_any_43 rfl)
  (zc_so (si_iload_n F dX8_any_46 rfl)
  (zc_so (si_rI F hQ hn hz hlocks hr (fun x h => by rcases h with rfl | rfl <;> rfl) dX8_any_47)
  (zc_nil)))))))))))))))))))))))))))
theorem sd825 (F : zFx p l R s m args meth c D cid kv N0 xs Ls RX8 cX8_any 3 n0 z0 nF zE d) (IH : zAllM l D cid kv N0 xs Ls d) (hQ : ∀ v h, Qq v h → v = r0 ∧ h = hF) (hn : nF = zN hF) (hz : zE = zZ hF) (hlocks : meth.locks = false) (hr : meth.sig.returnType = (some .boolean)) (pc : Nat) : zSo p l e R s m args below meth c D cid kv N0 xs Ls 3 (MQ below (zQc D cid kv N0 xs Ls ρ0 r0 hF) args s (nF - n0) (zE - z0) (zA N0)) ρ0 n0 z0 nF zE Qq (zCall d) pc (zTab 825 pc) := zc_tab [zt825_0] (zc_cons (sd825_0 F IH hQ hn hz hlocks hr) zc_end)
theorem dX8_clause_0 : decode cX8_clause 0 = .ok (.iconst (-1), 1) := by decide +kernel
theorem dX8_clause_1 : decode cX8_clause 1 = .ok (.istore_n 1, 1) := by decide +kernel
theorem dX8_clause_2 : decode cX8_clause 2 = .ok (.iconst 0, 1) := by decide +kernel
theorem dX8_clause_3 : decode cX8_clause 3 = .ok (.istore_n 2, 1) := by decide +kernel
theorem dX8_clause_4 : decode cX8_clause 4 = .ok (.iload_n 2, 1) := by decide +kernel
theorem dX8_clause_5 : decode cX8_clause 5 = .ok (.iconst 3, 1) := by decide +kernel
theorem dX8_clause_6 : decode cX8_clause 6 = .ok (.if_icmp .ge 28, 3) := by decide +kernel
theorem dX8_clause_9 : decode cX8_clause 9 = .ok (.aload_n 0, 1) := by decide +kernel
theorem dX8_clause_10 : decode cX8_clause 10 = .ok (.aload_n 0, 1) := by decide +kernel
theorem dX8_clause_11 : decode cX8_clause 11 = .ok (.getfield 48, 3) := by decide +kernel
theorem dX8_clause_14 : decode cX8_clause 14 = .ok (.iload_n 2, 1) := by decide +kernel
theorem dX8_clause_15 : decode cX8_clause 15 = .ok (.caload, 1) := by decide +kernel
theorem dX8_clause_16 : decode cX8_clause 16 = .ok (.invokevirtual 123, 3) := by decide +kernel
theorem dX8_clause_19 : decode cX8_clause 19 = .ok (.ifCond .eq 7, 3) := by decide +kernel
theorem dX8_clause_22 : decode cX8_clause 22 = .ok (.iload_n 2, 1) := by decide +kernel
theorem dX8_clause_23 : decode cX8_clause 23 = .ok (.goto 4, 3) := by decide +kernel
theorem dX8_clause_26 : decode cX8_clause 26 = .ok (.iload_n 1, 1) := by decide +kernel
theorem dX8_clause_27 : decode cX8_clause 27 = .ok (.istore_n 1, 1) := by decide +kernel
theorem dX8_clause_28 : decode cX8_clause 28 = .ok (.iinc 2 1, 3) := by decide +kernel
theorem dX8_clause_31 : decode cX8_clause 31 = .ok (.goto (-27), 3) := by decide +kernel
theorem dX8_clause_34 : decode cX8_clause 34 = .ok (.iload_n 1, 1) := by decide +kernel
theorem dX8_clause_35 : decode cX8_clause 35 = .ok (.iconst (-1), 1) := by decide +kernel
theorem dX8_clause_36 : decode cX8_clause 36 = .ok (.if_icmp .ne 9, 3) := by decide +kernel
theorem dX8_clause_39 : decode cX8_clause 39 = .ok (.aload_n 0, 1) := by decide +kernel
theorem dX8_clause_40 : decode cX8_clause 40 = .ok (.iconst 0, 1) := by decide +kernel
theorem dX8_clause_41 : decode cX8_clause 41 = .ok (.putfield 114, 3) := by decide +kernel
theorem dX8_clause_44 : decode cX8_clause 44 = .ok (.return_, 1) := by decide +kernel
theorem dX8_clause_45 : decode cX8_clause 45 = .ok (.iconst 0, 1) := by decide +kernel
theorem dX8_clause_46 : decode cX8_clause 46 = .ok (.istore_n 2, 1) := by decide +kernel
theorem dX8_clause_47 : decode cX8_clause 47 = .ok (.iload_n 2, 1) := by decide +kernel
theorem dX8_clause_48 : decode cX8_clause 48 = .ok (.iconst 5, 1) := by decide +kernel
theorem dX8_clause_49 : decode cX8_clause 49 = .ok (.if_icmp .ge 36, 3) := by decide +kernel
theorem dX8_clause_52 : decode cX8_clause 52 = .ok (.aload_n 0, 1) := by decide +kernel
theorem dX8_clause_53 : decode cX8_clause 53 = .ok (.getfield 51, 3) := by decide +kernel
theorem dX8_clause_56 : decode cX8_clause 56 = .ok (.iconst 5, 1) := by decide +kernel
theorem dX8_clause_57 : decode cX8_clause 57 = .ok (.iload_n 1, 1) := by decide +kernel
theorem dX8_clause_58 : decode cX8_clause 58 = .ok (.imul, 1) := by decide +kernel
theorem dX8_clause_59 : decode cX8_clause 59 = .ok (.iload_n 2, 1) := by decide +kernel
theorem dX8_clause_60 : decode cX8_clause 60 = .ok (.iadd, 1) := by decide +kernel
theorem dX8_clause_61 : decode cX8_clause 61 = .ok (.caload, 1) := by decide +kernel
theorem dX8_clause_62 : decode cX8_clause 62 = .ok (.ifCond .eq 23, 3) := by decide +kernel
theorem dX8_clause_65 : decode cX8_clause 65 = .ok (.aload_n 0, 1) := by decide +kernel
theorem dX8_clause_66 : decode cX8_clause 66 = .ok (.aload_n 0, 1) := by decide +kernel
theorem dX8_clause_67 : decode cX8_clause 67 = .ok (.getfield 51, 3) := by decide +kernel
theorem dX8_clause_70 : decode cX8_clause 70 = .ok (.iconst 5, 1) := by decide +kernel
theorem dX8_clause_71 : decode cX8_clause 71 = .ok (.iload_n 1, 1) := by decide +kernel
theorem dX8_clause_72 : decode cX8_clause 72 = .ok (.imul, 1) := by decide +kernel
theorem dX8_clause_73 : decode cX8_clause 73 = .ok (.iload_n 2, 1) := by decide +kernel
theorem dX8_clause_74 : decode cX8_clause 74 = .ok (.iadd, 1) := by decide +kernel
theorem dX8_clause_75 : decode cX8_clause 75 = .ok (.caload, 1) := by decide +kernel
theorem dX8_clause_76 : decode cX8_clause 76 = .ok (.invokevirtual 130, 3) := by decide +kernel
theorem dX8_clause_79 : decode cX8_clause 79 = .ok (.iinc 2 1, 3) := by decide +kernel
theorem dX8_clause_82 : decode cX8_clause 82 = .ok (.goto (-35), 3) := by decide +kernel
theorem dX8_clause_85 : decode cX8_clause 85 = .ok (.aload_n 0, 1) := by decide +kernel
theorem dX8_clause_86 : decode cX8_clause 86 = .ok (.bipush 32, 2) := by decide +kernel
theorem dX8_clause_88 : decode cX8_clause 88 = .ok (.invokevirtual 130, 3) := by decide +kernel
theorem dX8_clause_91 : decode cX8_clause 91 = .ok (.aload_n 0, 1) := by decide +kernel
theorem dX8_clause_92 : decode cX8_clause 92 = .ok (.invokevirtual 134, 3) := by decide +kernel
theorem dX8_clause_95 : decode cX8_clause 95 = .ok (.istore_n 2, 1) := by decide +kernel
theorem dX8_clause_96 : decode cX8_clause 96 = .ok (.iload_n 1, 1) := by decide +kernel
theorem dX8_clause_97 : decode cX8_clause 97 = .ok (.iconst 2, 1) := by decide +kernel
theorem dX8_clause_98 : decode cX8_clause 98 = .ok (.if_icmp .ne 9, 3) := by decide +kernel
theorem dX8_clause_101 : decode cX8_clause 101 = .ok (.aload_n 0, 1) := by decide +kernel
theorem dX8_clause_102 : decode cX8_clause 102 = .ok (.iload_n 2, 1) := by decide +kernel
theorem dX8_clause_103 : decode cX8_clause 103 = .ok (.putfield 153, 3) := by decide +kernel
theorem dX8_clause_106 : decode cX8_clause 106 = .ok (.return_, 1) := by decide +kernel
theorem dX8_clause_107 : decode cX8_clause 107 = .ok (.aload_n 0, 1) := by decide +kernel
theorem dX8_clause_108 : decode cX8_clause 108 = .ok (.bipush 32, 2) := by decide +kernel
theorem dX8_clause_110 : decode cX8_clause 110 = .ok (.invokevirtual 130, 3) := by decide +kernel
theorem dX8_clause_113 : decode cX8_clause 113 = .ok (.aload_n 0, 1) := by decide +kernel
theorem dX8_clause_114 : decode cX8_clause 114 = .ok (.iconst 0, 1) := by decide +kernel
theorem dX8_clause_115 : decode cX8_clause 115 = .ok (.putfield 138, 3) := by decide +kernel
theorem dX8_clause_118 : decode cX8_clause 118 = .ok (.aload_n 0, 1) := by decide +kernel
theorem dX8_clause_119 : decode cX8_clause 119 = .ok (.invokevirtual 144, 3) := by decide +kernel
theorem dX8_clause_122 : decode cX8_clause 122 = .ok (.istore_n 3, 1) := by decide +kernel
theorem dX8_clause_123 : decode cX8_clause 123 = .ok (.aload_n 0, 1) := by decide +kernel
theorem dX8_clause_124 : decode cX8_clause 124 = .ok (.dup, 1) := by decide +kernel
theorem dX8_clause_125 : decode cX8_clause 125 = .ok (.getfield 156, 3) := by decide +kernel
theorem dX8_clause_128 : decode cX8_clause 128 = .ok (.iload_n 3, 1) := by decide +kernel
theorem dX8_clause_129 : decode cX8_clause 129 = .ok (.ifCond .ne 7, 3) := by decide +kernel
theorem dX8_clause_132 : decode cX8_clause 132 = .ok (.iconst 0, 1) := by decide +kernel
theorem dX8_clause_133 : decode cX8_clause 133 = .ok (.goto 13, 3) := by decide +kernel
theorem dX8_clause_136 : decode cX8_clause 136 = .ok (.iload_n 1, 1) := by decide +kernel
theorem dX8_clause_137 : decode cX8_clause 137 = .ok (.ifCond .ne 7, 3) := by decide +kernel
theorem dX8_clause_140 : decode cX8_clause 140 = .ok (.iload_n 2, 1) := by decide +kernel
theorem dX8_clause_141 : decode cX8_clause 141 = .ok (.goto 5, 3) := by decide +kernel
theorem dX8_clause_144 : decode cX8_clause 144 = .ok (.iload_n 2, 1) := by decide +kernel
theorem dX8_clause_145 : decode cX8_clause 145 = .ok (.ineg, 1) := by decide +kernel
theorem dX8_clause_146 : decode cX8_clause 146 = .ok (.iadd, 1) := by decide +kernel
theorem dX8_clause_147 : decode cX8_clause 147 = .ok (.putfield 156, 3) := by decide +kernel
theorem dX8_clause_150 : decode cX8_clause 150 = .ok (.return_, 1) := by decide +kernel
theorem sd826_0 (F : zFx p l R s m args meth c D cid kv N0 xs Ls RX8 cX8_clause 4 n0 z0 nF zE d) (IH : zAllM l D cid kv N0 xs Ls d) (hQ : ∀ v h, Qq v h → v = r0 ∧ h = hF) (hn : nF = zN hF) (hz : zE = zZ hF) (hlocks : meth.locks = false) (hr : meth.sig.returnType = none) : zSoL p l e R s m args below meth c D cid kv N0 xs Ls 4 (MQ below (zQc D cid kv N0 xs Ls ρ0 r0 hF) args s (nF - n0) (zE - z0) (zA N0)) ρ0 n0 z0 nF zE Qq (zCall d) zt826_0 := zc_so (si_iconst F dX8_clause_0 rfl)
  (zc_so (si_istore_n F dX8_clause_1 rfl)
  (zc_so (si_iconst F dX8_clause_2 rfl)
  (zc_so (si_istore_n F dX8_clause_3 rfl)
  (zc_so (si_iload_n F dX8_clause_4 rfl)
  (zc_so (si_iconst F dX8_clause_5 rfl)
  (zc_so (si_icge F dX8_clause_6 rfl)
  (zc_so (si_aload_n F dX8_clause_9 rfl)
  (zc_so (si_aload_n F dX8_clause_10 rfl)
  (zc_so (si_getR (k := 19) F rfl inT8 (by decide) (by decide) rfl rfl tb_723 dX8_clause_11)
  (zc_so (si_iload_n F dX8_clause_14 rfl)
  (zc_so (si_caload F dX8_clause_15)
  (zc_so (si_cV F (IH 818 mm818) mp818 (by decide) rfl rfl (by decide) tb_839 mi818 ms818 mn818 mc818 dX8_clause_16)
  (zc_so (si_ifeq F dX8_clause_19 rfl)
  (zc_so (si_iload_n F dX8_clause_22 rfl)
  (zc_so (si_goto F dX8_clause_23 rfl)
  (zc_so (si_iload_n F dX8_clause_26 rfl)
  (zc_so (si_istore_n F dX8_clause_27 rfl)
  (zc_so (si_iinc F dX8_clause_28 rfl)
  (zc_so (si_goto F dX8_clause_31 rfl)
  (zc_so (si_iload_n F dX8_clause_34 rfl)
  (zc_so (si_iconst F dX8_clause_35 rfl)
  (zc_so (si_icne F dX8_clause_36 rfl)
  (zc_so (si_aload_n F dX8_clause_39 rfl)
  (zc_so (si_iconst F dX8_clause_40 rfl)
  (zc_so (si_putZ (k := 13) F rfl inT8 (by decide) (by decide) rfl rfl rfl rfl tyX8_ok nmX8 tb_717 dX8_clause_41)
  (zc_so (si_rV F hQ hn hz hlocks hr dX8_clause_44)
  (zc_so (si_iconst F dX8_clause_45 rfl)
  (zc_so (si_istore_n F dX8_clause_46 rfl)
  (zc_so (si_iload_n F dX8_clause_47 rfl)
  (zc_so (si_iconst F dX8_clause_48 rfl)
  (zc_so (si_icge F dX8_clause_49 rfl)
  (zc_so (si_aload_n F dX8_clause_52 rfl)
  (zc_so (si_getR (k := 20) F rfl inT8 (by decide) (by decide) rfl rfl tb_724 dX8_clause_53)
  (zc_so (si_iconst F dX8_clause_56 rfl)
  (zc_so (si_iload_n F dX8_clause_57 rfl)
  (zc_so (si_imul F dX8_clause_58)
  (zc_so (si_iload_n F dX8_clause_59 rfl)
  (zc_so (si_iadd F dX8_clause_60)
  (zc_so (si_caload F dX8_clause_61)
  (zc_so (si_ifeq F dX8_clause_62 rfl)
  (zc_nil)))))))))))))))))))))))))))))))))))))))))
theorem sd826_1 (F : zFx p l R s m args meth c D cid kv N0 xs Ls RX8 cX8_clause 4 n0 z0 nF zE d) (IH : zAllM l D cid kv N0 xs Ls d) (hQ : ∀ v h, Qq v h → v = r0 ∧ h = hF) (hn : nF = zN hF) (hz : zE = zZ hF) (hlocks : meth.locks = false) (hr : meth.sig.returnType = none) : zSoL p l e R s m args below meth c D cid kv N0 xs Ls 4 (MQ below (zQc D cid kv N0 xs Ls ρ0 r0 hF) args s (nF - n0) (zE - z0) (zA N0)) ρ0 n0 z0 nF zE Qq (zCall d) zt826_1 := zc_so (si_aload_n F dX8_clause_65 rfl)
  (zc_so (si_aload_n F dX8_clause_66 rfl)
  (zc_so (si_getR (k := 20) F rfl inT8 (by decide) (by decide) rfl rfl tb_724 dX8_clause_67)
  (zc_so (si_iconst F dX8_clause_70 rfl)
  (zc_so (si_iload_n F dX8_clause_71 rfl)
  (zc_so (si_imul F dX8_clause_72)
  (zc_so (si_iload_n F dX8_clause_73 rfl)
  (zc_so (si_iadd F dX8_clause_74)
  (zc_so (si_caload F dX8_clause_75)
  (zc_so (si_cV F (IH 819 mm819) mp819 (by decide) rfl rfl (by decide) tb_843 mi819 ms819 mn819 mc819 dX8_clause_76)
  (zc_so (si_iinc F dX8_clause_79 rfl)
  (zc_so (si_goto F dX8_clause_82 rfl)
  (zc_so (si_aload_n F dX8_clause_85 rfl)
  (zc_so (si_bipush F dX8_clause_86 rfl)
  (zc_so (si_cV F (IH 819 mm819) mp819 (by decide) rfl rfl (by decide) tb_843 mi819 ms819 mn819 mc819 dX8_clause_88)
  (zc_so (si_aload_n F dX8_clause_91 rfl)
  (zc_so (si_cV F (IH 821 mm821) mp821 (by decide) rfl rfl (by decide) tb_847 mi821 ms821 mn821 mc821 dX8_clause_92)
  (zc_so (si_istore_n F dX8_clause_95 rfl)
  (zc_so (si_iload_n F dX8_clause_96 rfl)
  (zc_so (si_iconst F dX8_clause_97 rfl)
  (zc_so (si_icne F dX8_clause_98 rfl)
  (zc_so (si_aload_n F dX8_clause_101 rfl)
  (zc_so (si_iload_n F dX8_clause_102 rfl)
  (zc_so (si_putI (k := 16) F rfl inT8 (by decide) (by decide) rfl rfl rfl rfl tyX8_ok nmX8 tb_720 dX8_clause_103)
  (zc_so (si_rV F hQ hn hz hlocks hr dX8_clause_106)
  (zc_so (si_aload_n F dX8_clause_107 rfl)
  (zc_so (si_bipush F dX8_clause_108 rfl)
  (zc_so (si_cV F (IH 819 mm819) mp819 (by decide) rfl rfl (by decide) tb_843 mi819 ms819 mn819 mc819 dX8_clause_110)
  (zc_so (si_aload_n F dX8_clause_113 rfl)
  (zc_so (si_iconst F dX8_clause_114 rfl)
  (zc_so (si_putI (k := 14) F rfl inT8 (by decide) (by decide) rfl rfl rfl rfl tyX8_ok nmX8 tb_718 dX8_clause_115)
  (zc_so (si_aload_n F dX8_clause_118 rfl)
  (zc_so (si_cV F (IH 825 mm825) mp825 (by decide) rfl rfl (by decide) tb_855 mi825 ms825 mn825 mc825 dX8_clause_119)
  (zc_so (si_istore_n F dX8_clause_122 rfl)
  (zc_so (si_aload_n F dX8_clause_123 rfl)
  (zc_so (si_dup F dX8_clause_124)
  (zc_so (si_getI (k := 15) F rfl inT8 (by decide) (by decide) rfl rfl tb_719 dX8_clause_125)
  (zc_nil)))))))))))))))))))))))))))))))))))))
theorem sd826_2 (F : zFx p l R s m args meth c D cid kv N0 xs Ls RX8 cX8_clause 4 n0 z0 nF zE d) (IH : zAllM l D cid kv N0 xs Ls d) (hQ : ∀ v h, Qq v h → v = r0 ∧ h = hF) (hn : nF = zN hF) (hz : zE = zZ hF) (hlocks : meth.locks = false) (hr : meth.sig.returnType = none) : zSoL p l e R s m args below meth c D cid kv N0 xs Ls 4 (MQ below (zQc D cid kv N0 xs Ls ρ0 r0 hF) args s (nF - n0) (zE - z0) (zA N0)) ρ0 n0 z0 nF zE Qq (zCall d) zt826_2 := zc_so (si_iload_n F dX8_clause_128 rfl)
  (zc_so (si_ifne F dX8_clause_129 rfl)
  (zc_so (si_iconst F dX8_clause_132 rfl)
  (zc_so (si_goto F dX8_clause_133 rfl)
  (zc_so (si_iload_n F dX8_clause_136 rfl)
  (zc_so (si_ifne F dX8_clause_137 rfl)
  (zc_so (si_iload_n F dX8_clause_140 rfl)
  (zc_so (si_goto F dX8_clause_141 rfl)
  (zc_so (si_iload_n F dX8_clause_144 rfl)
  (zc_so (si_ineg F dX8_clause_145)
  (zc_so (si_iadd F dX8_clause_146)
  (zc_so (si_putI (k := 15) F rfl inT8 (by decide) (by decide) rfl rfl rfl rfl tyX8_ok nmX8 tb_719 dX8_clause_147)
  (zc_so (si_rV F hQ hn hz hlocks hr dX8_clause_150)
  (zc_nil)))))))))))))
theorem sd826 (F : zFx p l R s m args meth c D cid kv N0 xs Ls RX8 cX8_clause 4 n0 z0 nF zE d) (IH : zAllM l D cid kv N0 xs Ls d) (hQ : ∀ v h, Qq v h → v = r0 ∧ h = hF) (hn : nF = zN hF) (hz : zE = zZ hF) (hlocks : meth.locks = false) (hr : meth.sig.returnType = none) (pc : Nat) : zSo p l e R s m args below meth c D cid kv N0 xs Ls 4 (MQ below (zQc D cid kv N0 xs Ls ρ0 r0 hF) args s (nF - n0) (zE - z0) (zA N0)) ρ0 n0 z0 nF zE Qq (zCall d) pc (zTab 826 pc) := zc_tab [zt826_0, zt826_1, zt826_2] (zc_cons (sd826_0 F IH hQ hn hz hlocks hr) (zc_cons (sd826_1 F IH hQ hn hz hlocks hr) (zc_cons (sd826_2 F IH hQ hn hz hlocks hr) zc_end)))
theorem dX8_readAll_0 : decode cX8_readAll 0 = .ok (.aload_n 0, 1) := by decide +kernel
theorem dX8_readAll_1 : decode cX8_readAll 1 = .ok (.iconst 0, 1) := by decide +kernel
theorem dX8_readAll_2 : decode cX8_readAll 2 = .ok (.putfield 117, 3) := by decide +kernel
theorem dX8_readAll_5 : decode cX8_readAll 5 = .ok (.aload_n 0, 1) := by decide +kernel
theorem dX8_readAll_6 : decode cX8_readAll 6 = .ok (.iconst 1, 1) := by decide +kernel
theorem dX8_readAll_7 : decode cX8_readAll 7 = .ok (.putfield 114, 3) := by decide +kernel
theorem dX8_readAll_10 : decode cX8_readAll 10 = .ok (.aload_n 0, 1) := by decide +kernel
theorem dX8_readAll_11 : decode cX8_readAll 11 = .ok (.iconst 0, 1) := by decide +kernel
theorem dX8_readAll_12 : decode cX8_readAll 12 = .ok (.putfield 156, 3) := by decide +kernel
theorem dX8_readAll_15 : decode cX8_readAll 15 = .ok (.aload_n 0, 1) := by decide +kernel
theorem dX8_readAll_16 : decode cX8_readAll 16 = .ok (.bipush 10, 2) := by decide +kernel
theorem dX8_readAll_18 : decode cX8_readAll 18 = .ok (.putfield 153, 3) := by decide +kernel
theorem dX8_readAll_21 : decode cX8_readAll 21 = .ok (.iconst 1, 1) := by decide +kernel
theorem dX8_readAll_22 : decode cX8_readAll 22 = .ok (.istore_n 1, 1) := by decide +kernel
theorem dX8_readAll_23 : decode cX8_readAll 23 = .ok (.aload_n 0, 1) := by decide +kernel
theorem dX8_readAll_24 : decode cX8_readAll 24 = .ok (.invokevirtual 159, 3) := by decide +kernel
theorem dX8_readAll_27 : decode cX8_readAll 27 = .ok (.iload_n 1, 1) := by decide +kernel
theorem dX8_readAll_28 : decode cX8_readAll 28 = .ok (.bipush 10, 2) := by decide +kernel
theorem dX8_readAll_30 : decode cX8_readAll 30 = .ok (.if_icmp .ge 32, 3) := by decide +kernel
theorem dX8_readAll_33 : decode cX8_readAll 33 = .ok (.aload_n 0, 1) := by decide +kernel
theorem dX8_readAll_34 : decode cX8_readAll 34 = .ok (.bipush 59, 2) := by decide +kernel
theorem dX8_readAll_36 : decode cX8_readAll 36 = .ok (.invokevirtual 123, 3) := by decide +kernel
theorem dX8_readAll_39 : decode cX8_readAll 39 = .ok (.ifCond .eq 23, 3) := by decide +kernel
theorem dX8_readAll_42 : decode cX8_readAll 42 = .ok (.aload_n 0, 1) := by decide +kernel
theorem dX8_readAll_43 : decode cX8_readAll 43 = .ok (.dup, 1) := by decide +kernel
theorem dX8_readAll_44 : decode cX8_readAll 44 = .ok (.getfield 117, 3) := by decide +kernel
theorem dX8_readAll_47 : decode cX8_readAll 47 = .ok (.iconst 1, 1) := by decide +kernel
theorem dX8_readAll_48 : decode cX8_readAll 48 = .ok (.iadd, 1) := by decide +kernel
theorem dX8_readAll_49 : decode cX8_readAll 49 = .ok (.putfield 117, 3) := by decide +kernel
theorem dX8_readAll_52 : decode cX8_readAll 52 = .ok (.aload_n 0, 1) := by decide +kernel
theorem dX8_readAll_53 : decode cX8_readAll 53 = .ok (.invokevirtual 159, 3) := by decide +kernel
theorem dX8_readAll_56 : decode cX8_readAll 56 = .ok (.iinc 1 1, 3) := by decide +kernel
theorem dX8_readAll_59 : decode cX8_readAll 59 = .ok (.goto (-32), 3) := by decide +kernel
theorem dX8_readAll_62 : decode cX8_readAll 62 = .ok (.aload_n 0, 1) := by decide +kernel
theorem dX8_readAll_63 : decode cX8_readAll 63 = .ok (.getfield 114, 3) := by decide +kernel
theorem dX8_readAll_66 : decode cX8_readAll 66 = .ok (.ifCond .eq 18, 3) := by decide +kernel
theorem dX8_readAll_69 : decode cX8_readAll 69 = .ok (.aload_n 0, 1) := by decide +kernel
theorem dX8_readAll_70 : decode cX8_readAll 70 = .ok (.getfield 117, 3) := by decide +kernel
theorem dX8_readAll_73 : decode cX8_readAll 73 = .ok (.aload_n 0, 1) := by decide +kernel
theorem dX8_readAll_74 : decode cX8_readAll 74 = .ok (.getfield 120, 3) := by decide +kernel
theorem dX8_readAll_77 : decode cX8_readAll 77 = .ok (.if_icmp .ne 7, 3) := by decide +kernel
theorem dX8_readAll_80 : decode cX8_readAll 80 = .ok (.iconst 1, 1) := by decide +kernel
theorem dX8_readAll_81 : decode cX8_readAll 81 = .ok (.goto 4, 3) := by decide +kernel
theorem dX8_readAll_84 : decode cX8_readAll 84 = .ok (.iconst 0, 1) := by decide +kernel
theorem dX8_readAll_85 : decode cX8_readAll 85 = .ok (.ireturn, 1) := by decide +kernel
theorem sd827_0 (F : zFx p l R s m args meth c D cid kv N0 xs Ls RX8 cX8_readAll 2 n0 z0 nF zE d) (IH : zAllM l D cid kv N0 xs Ls d) (hQ : ∀ v h, Qq v h → v = r0 ∧ h = hF) (hn : nF = zN hF) (hz : zE = zZ hF) (hlocks : meth.locks = false) (hr : meth.sig.returnType = (some .boolean)) : zSoL p l e R s m args below meth c D cid kv N0 xs Ls 2 (MQ below (zQc D cid kv N0 xs Ls ρ0 r0 hF) args s (nF - n0) (zE - z0) (zA N0)) ρ0 n0 z0 nF zE Qq (zCall d) zt827_0 := zc_so (si_aload_n F dX8_readAll_0 rfl)
  (zc_so (si_iconst F dX8_readAll_1 rfl)
  (zc_so (si_putI (k := 12) F rfl inT8 (by decide) (by decide) rfl rfl rfl rfl tyX8_ok nmX8 tb_716 dX8_readAll_2)
  (zc_so (si_aload_n F dX8_readAll_5 rfl)
  (zc_so (si_iconst F dX8_readAll_6 rfl)
  (zc_so (si_putZ (k := 13) F rfl inT8 (by decide) (by decide) rfl rfl rfl rfl tyX8_ok nmX8 tb_717 dX8_readAll_7)
  (zc_so (si_aload_n F dX8_readAll_10 rfl)
  (zc_so (si_iconst F dX8_readAll_11 rfl)
  (zc_so (si_putI (k := 15) F rfl inT8 (by decide) (by decide) rfl rfl rfl rfl tyX8_ok nmX8 tb_719 dX8_readAll_12)
  (zc_so (si_aload_n F dX8_readAll_15 rfl)
  (zc_so (si_bipush F dX8_readAll_16 rfl)
  (zc_so (si_putI (k := 16) F rfl inT8 (by decide) (by decide) rfl rfl rfl rfl tyX8_ok nmX8 tb_720 dX8_readAll_18)
  (zc_so (si_iconst F dX8_readAll_21 rfl)
  (zc_so (si_istore_n F dX8_readAll_22 rfl)
  (zc_so (si_aload_n F dX8_readAll_23 rfl)
  (zc_so (si_cV F (IH 826 mm826) mp826 (by decide) rfl rfl (by decide) tb_835 mi826 ms826 mn826 mc826 dX8_readAll_24)
  (zc_so (si_iload_n F dX8_readAll_27 rfl)
  (zc_so (si_bipush F dX8_readAll_28 rfl)
  (zc_so (si_icge F dX8_readAll_30 rfl)
  (zc_so (si_aload_n F dX8_readAll_33 rfl)
  (zc_so (si_bipush F dX8_readAll_34 rfl)
  (zc_so (si_cV F (IH 818 mm818) mp818 (by decide) rfl rfl (by decide) tb_839 mi818 ms818 mn818 mc818 dX8_readAll_36)
  (zc_so (si_ifeq F dX8_readAll_39 rfl)
  (zc_so (si_aload_n F dX8_readAll_42 rfl)
  (zc_so (si_dup F dX8_readAll_43)
  (zc_so (si_getI (k := 12) F rfl inT8 (by decide) (by decide) rfl rfl tb_716 dX8_readAll_44)
  (zc_so (si_iconst F dX8_readAll_47 rfl)
  (zc_so (si_iadd F dX8_readAll_48)
  (zc_so (si_putI (k := 12) F rfl inT8 (by decide) (by decide) rfl rfl rfl rfl tyX8_ok nmX8 tb_716 dX8_readAll_49)
  (zc_so (si_aload_n F dX8_readAll_52 rfl)
  (zc_so (si_cV F (IH 826 mm826) mp826 (by decide) rfl rfl (by decide) tb_835 mi826 ms826 mn826 mc826 dX8_readAll_53)
  (zc_so (si_iinc F dX8_readAll_56 rfl)
  (zc_so (si_goto F dX8_readAll_59 rfl)
  (zc_so (si_aload_n F dX8_readAll_62 rfl)
  (zc_so (si_getI (k := 13) F rfl inT8 (by decide) (by decide) rfl rfl tb_717 dX8_readAll_63)
  (zc_nil)))))))))))))))))))))))))))))))))))
theorem sd827_1 (F : zFx p l R s m args meth c D cid kv N0 xs Ls RX8 cX8_readAll 2 n0 z0 nF zE d) (IH : zAllM l D cid kv N0 xs Ls d) (hQ : ∀ v h, Qq v h → v = r0 ∧ h = hF) (hn : nF = zN hF) (hz : zE = zZ hF) (hlocks : meth.locks = false) (hr : meth.sig.returnType = (some .boolean)) : zSoL p l e R s m args below meth c D cid kv N0 xs Ls 2 (MQ below (zQc D cid kv N0 xs Ls ρ0 r0 hF) args s (nF - n0) (zE - z0) (zA N0)) ρ0 n0 z0 nF zE Qq (zCall d) zt827_1 := zc_so (si_ifeq F dX8_readAll_66 rfl)
  (zc_so (si_aload_n F dX8_readAll_69 rfl)
  (zc_so (si_getI (k := 12) F rfl inT8 (by decide) (by decide) rfl rfl tb_716 dX8_readAll_70)
  (zc_so (si_aload_n F dX8_readAll_73 rfl)
  (zc_so (si_getI (k := 11) F rfl inT8 (by decide) (by decide) rfl rfl tb_715 dX8_readAll_74)
  (zc_so (si_icne F dX8_readAll_77 rfl)
  (zc_so (si_iconst F dX8_readAll_80 rfl)
  (zc_so (si_goto F dX8_readAll_81 rfl)
  (zc_so (si_iconst F dX8_readAll_84 rfl)
  (zc_so (si_rI F hQ hn hz hlocks hr (fun x h => by rcases h with rfl | rfl <;> rfl) dX8_readAll_85)
  (zc_nil))))))))))
theorem sd827 (F : zFx p l R s m args meth c D cid kv N0 xs Ls RX8 cX8_readAll 2 n0 z0 nF zE d) (IH : zAllM l D cid kv N0 xs Ls d) (hQ : ∀ v h, Qq v h → v = r0 ∧ h = hF) (hn : nF = zN hF) (hz : zE = zZ hF) (hlocks : meth.locks = false) (hr : meth.sig.returnType = (some .boolean)) (pc : Nat) : zSo p l e R s m args below meth c D cid kv N0 xs Ls 2 (MQ below (zQc D cid kv N0 xs Ls ρ0 r0 hF) args s (nF - n0) (zE - z0) (zA N0)) ρ0 n0 z0 nF zE Qq (zCall d) pc (zTab 827 pc) := zc_tab [zt827_0, zt827_1] (zc_cons (sd827_0 F IH hQ hn hz hlocks hr) (zc_cons (sd827_1 F IH hQ hn hz hlocks hr) zc_end))
theorem dX8_readFor_0 : decode cX8_readFor 0 = .ok (.aload_n 0, 1) := by decide +kernel
theorem dX8_readFor_1 : decode cX8_readFor 1 = .ok (.getfield 41, 3) := by decide +kernel
theorem dX8_readFor_4 : decode cX8_readFor 4 = .ok (.iconst 0, 1) := by decide +kernel
theorem dX8_readFor_5 : decode cX8_readFor 5 = .ok (.iload_n 1, 1) := by decide +kernel
theorem dX8_readFor_6 : decode cX8_readFor 6 = .ok (.iastore, 1) := by decide +kernel
theorem dX8_readFor_7 : decode cX8_readFor 7 = .ok (.aload_n 0, 1) := by decide +kernel
theorem dX8_readFor_8 : decode cX8_readFor 8 = .ok (.getfield 41, 3) := by decide +kernel
theorem dX8_readFor_11 : decode cX8_readFor 11 = .ok (.iconst 1, 1) := by decide +kernel
theorem dX8_readFor_12 : decode cX8_readFor 12 = .ok (.aload_n 0, 1) := by decide +kernel
theorem dX8_readFor_13 : decode cX8_readFor 13 = .ok (.iload_n 1, 1) := by decide +kernel
theorem dX8_readFor_14 : decode cX8_readFor 14 = .ok (.iconst 0, 1) := by decide +kernel
theorem dX8_readFor_15 : decode cX8_readFor 15 = .ok (.invokevirtual 88, 3) := by decide +kernel
theorem dX8_readFor_18 : decode cX8_readFor 18 = .ok (.iastore, 1) := by decide +kernel
theorem dX8_readFor_19 : decode cX8_readFor 19 = .ok (.aload_n 0, 1) := by decide +kernel
theorem dX8_readFor_20 : decode cX8_readFor 20 = .ok (.getfield 41, 3) := by decide +kernel
theorem dX8_readFor_23 : decode cX8_readFor 23 = .ok (.iconst 2, 1) := by decide +kernel
theorem dX8_readFor_24 : decode cX8_readFor 24 = .ok (.aload_n 0, 1) := by decide +kernel
theorem dX8_readFor_25 : decode cX8_readFor 25 = .ok (.iload_n 1, 1) := by decide +kernel
theorem dX8_readFor_26 : decode cX8_readFor 26 = .ok (.iconst 1, 1) := by decide +kernel
theorem dX8_readFor_27 : decode cX8_readFor 27 = .ok (.invokevirtual 88, 3) := by decide +kernel
theorem dX8_readFor_30 : decode cX8_readFor 30 = .ok (.iastore, 1) := by decide +kernel
theorem dX8_readFor_31 : decode cX8_readFor 31 = .ok (.aload_n 0, 1) := by decide +kernel
theorem dX8_readFor_32 : decode cX8_readFor 32 = .ok (.getfield 41, 3) := by decide +kernel
theorem dX8_readFor_35 : decode cX8_readFor 35 = .ok (.iconst 3, 1) := by decide +kernel
theorem dX8_readFor_36 : decode cX8_readFor 36 = .ok (.aload_n 0, 1) := by decide +kernel
theorem dX8_readFor_37 : decode cX8_readFor 37 = .ok (.iload_n 1, 1) := by decide +kernel
theorem dX8_readFor_38 : decode cX8_readFor 38 = .ok (.iconst 2, 1) := by decide +kernel
theorem dX8_readFor_39 : decode cX8_readFor 39 = .ok (.invokevirtual 88, 3) := by decide +kernel
theorem dX8_readFor_42 : decode cX8_readFor 42 = .ok (.bipush 10, 2) := by decide +kernel
theorem dX8_readFor_44 : decode cX8_readFor 44 = .ok (.idiv, 1) := by decide +kernel
theorem dX8_readFor_45 : decode cX8_readFor 45 = .ok (.iastore, 1) := by decide +kernel
theorem dX8_readFor_46 : decode cX8_readFor 46 = .ok (.aload_n 0, 1) := by decide +kernel
theorem dX8_readFor_47 : decode cX8_readFor 47 = .ok (.getfield 41, 3) := by decide +kernel
theorem dX8_readFor_50 : decode cX8_readFor 50 = .ok (.iconst 4, 1) := by decide +kernel
theorem dX8_readFor_51 : decode cX8_readFor 51 = .ok (.aload_n 0, 1) := by decide +kernel
theorem dX8_readFor_52 : decode cX8_readFor 52 = .ok (.iload_n 1, 1) := by decide +kernel
theorem dX8_readFor_53 : decode cX8_readFor 53 = .ok (.iconst 5, 1) := by decide +kernel
theorem dX8_readFor_54 : decode cX8_readFor 54 = .ok (.invokevirtual 88, 3) := by decide +kernel
theorem dX8_readFor_57 : decode cX8_readFor 57 = .ok (.bipush 10, 2) := by decide +kernel
theorem dX8_readFor_59 : decode cX8_readFor 59 = .ok (.irem, 1) := by decide +kernel
theorem dX8_readFor_60 : decode cX8_readFor 60 = .ok (.iastore, 1) := by decide +kernel
theorem dX8_readFor_61 : decode cX8_readFor 61 = .ok (.aload_n 0, 1) := by decide +kernel
theorem dX8_readFor_62 : decode cX8_readFor 62 = .ok (.getfield 41, 3) := by decide +kernel
theorem dX8_readFor_65 : decode cX8_readFor 65 = .ok (.iconst 5, 1) := by decide +kernel
theorem dX8_readFor_66 : decode cX8_readFor 66 = .ok (.aload_n 0, 1) := by decide +kernel
theorem dX8_readFor_67 : decode cX8_readFor 67 = .ok (.getfield 15, 3) := by decide +kernel
theorem dX8_readFor_70 : decode cX8_readFor 70 = .ok (.bipush 62, 2) := by decide +kernel
theorem dX8_readFor_72 : decode cX8_readFor 72 = .ok (.iaload, 1) := by decide +kernel
theorem dX8_readFor_73 : decode cX8_readFor 73 = .ok (.bipush 10, 2) := by decide +kernel
theorem dX8_readFor_75 : decode cX8_readFor 75 = .ok (.irem, 1) := by decide +kernel
theorem dX8_readFor_76 : decode cX8_readFor 76 = .ok (.iastore, 1) := by decide +kernel
theorem dX8_readFor_77 : decode cX8_readFor 77 = .ok (.aload_n 0, 1) := by decide +kernel
theorem dX8_readFor_78 : decode cX8_readFor 78 = .ok (.getfield 15, 3) := by decide +kernel
theorem dX8_readFor_81 : decode cX8_readFor 81 = .ok (.bipush 63, 2) := by decide +kernel
theorem dX8_readFor_83 : decode cX8_readFor 83 = .ok (.iaload, 1) := by decide +kernel
theorem dX8_readFor_84 : decode cX8_readFor 84 = .ok (.ifCond .ne 17, 3) := by decide +kernel
theorem dX8_readFor_87 : decode cX8_readFor 87 = .ok (.aload_n 0, 1) := by decide +kernel
theorem dX8_readFor_88 : decode cX8_readFor 88 = .ok (.iconst 0, 1) := by decide +kernel
theorem dX8_readFor_89 : decode cX8_readFor 89 = .ok (.putfield 156, 3) := by decide +kernel
theorem dX8_readFor_92 : decode cX8_readFor 92 = .ok (.aload_n 0, 1) := by decide +kernel
theorem dX8_readFor_93 : decode cX8_readFor 93 = .ok (.bipush 10, 2) := by decide +kernel
theorem dX8_readFor_95 : decode cX8_readFor 95 = .ok (.putfield 153, 3) := by decide +kernel
theorem dX8_readFor_98 : decode cX8_readFor 98 = .ok (.goto 61, 3) := by decide +kernel
theorem dX8_readFor_101 : decode cX8_readFor 101 = .ok (.aload_n 0, 1) := by decide +kernel
theorem dX8_readFor_102 : decode cX8_readFor 102 = .ok (.getfield 15, 3) := by decide +kernel
theorem dX8_readFor_105 : decode cX8_readFor 105 = .ok (.bipush 63, 2) := by decide +kernel
theorem dX8_readFor_107 : decode cX8_readFor 107 = .ok (.iaload, 1) := by decide +kernel
theorem dX8_readFor_108 : decode cX8_readFor 108 = .ok (.iconst 1, 1) := by decide +kernel
theorem dX8_readFor_109 : decode cX8_readFor 109 = .ok (.isub, 1) := by decide +kernel
theorem dX8_readFor_110 : decode cX8_readFor 110 = .ok (.istore_n 2, 1) := by decide +kernel
theorem dX8_readFor_111 : decode cX8_readFor 111 = .ok (.aload_n 0, 1) := by decide +kernel
theorem dX8_readFor_112 : decode cX8_readFor 112 = .ok (.aload_n 0, 1) := by decide +kernel
theorem dX8_readFor_113 : decode cX8_readFor 113 = .ok (.getfield 35, 3) := by decide +kernel
theorem dX8_readFor_116 : decode cX8_readFor 116 = .ok (.iload_n 2, 1) := by decide +kernel
theorem dX8_readFor_117 : decode cX8_readFor 117 = .ok (.iaload, 1) := by decide +kernel
theorem dX8_readFor_118 : decode cX8_readFor 118 = .ok (.putfield 120, 3) := by decide +kernel
theorem dX8_readFor_121 : decode cX8_readFor 121 = .ok (.iconst 0, 1) := by decide +kernel
theorem dX8_readFor_122 : decode cX8_readFor 122 = .ok (.istore_n 3, 1) := by decide +kernel
theorem dX8_readFor_123 : decode cX8_readFor 123 = .ok (.iload_n 3, 1) := by decide +kernel
theorem dX8_readFor_124 : decode cX8_readFor 124 = .ok (.aload_n 0, 1) := by decide +kernel
theorem dX8_readFor_125 : decode cX8_readFor 125 = .ok (.getfield 120, 3) := by decide +kernel
theorem dX8_readFor_128 : decode cX8_readFor 128 = .ok (.if_icmp .ge 26, 3) := by decide +kernel
theorem dX8_readFor_131 : decode cX8_readFor 131 = .ok (.aload_n 0, 1) := by decide +kernel
theorem dX8_readFor_132 : decode cX8_readFor 132 = .ok (.getfield 38, 3) := by decide +kernel
theorem dX8_readFor_135 : decode cX8_readFor 135 = .ok (.iload_n 3, 1) := by decide +kernel
theorem dX8_readFor_136 : decode cX8_readFor 136 = .ok (.aload_n 0, 1) := by decide +kernel
theorem dX8_readFor_137 : decode cX8_readFor 137 = .ok (.getfield 32, 3) := by decide +kernel
theorem dX8_readFor_140 : decode cX8_readFor 140 = .ok (.bipush 100, 2) := by decide +kernel
theorem dX8_readFor_142 : decode cX8_readFor 142 = .ok (.iload_n 2, 1) := by decide +kernel
theorem dX8_readFor_143 : decode cX8_readFor 143 = .ok (.imul, 1) := by decide +kernel
theorem dX8_readFor_144 : decode cX8_readFor 144 = .ok (.iload_n 3, 1) := by decide +kernel
theorem dX8_readFor_145 : decode cX8_readFor 145 = .ok (.iadd, 1) := by decide +kernel
theorem dX8_readFor_146 : decode cX8_readFor 146 = .ok (.iaload, 1) := by decide +kernel
theorem dX8_readFor_147 : decode cX8_readFor 147 = .ok (.iastore, 1) := by decide +kernel
theorem dX8_readFor_148 : decode cX8_readFor 148 = .ok (.iinc 3 1, 3) := by decide +kernel
theorem dX8_readFor_151 : decode cX8_readFor 151 = .ok (.goto (-28), 3) := by decide +kernel
theorem dX8_readFor_154 : decode cX8_readFor 154 = .ok (.aload_n 0, 1) := by decide +kernel
theorem dX8_readFor_155 : decode cX8_readFor 155 = .ok (.invokevirtual 162, 3) := by decide +kernel
theorem dX8_readFor_158 : decode cX8_readFor 158 = .ok (.pop, 1) := by decide +kernel
theorem dX8_readFor_159 : decode cX8_readFor 159 = .ok (.aload_n 0, 1) := by decide +kernel
theorem dX8_readFor_160 : decode cX8_readFor 160 = .ok (.aload_n 0, 1) := by decide +kernel
theorem dX8_readFor_161 : decode cX8_readFor 161 = .ok (.getfield 25, 3) := by decide +kernel
theorem dX8_readFor_164 : decode cX8_readFor 164 = .ok (.ifCond .lt 10, 3) := by decide +kernel
theorem dX8_readFor_167 : decode cX8_readFor 167 = .ok (.aload_n 0, 1) := by decide +kernel
theorem dX8_readFor_168 : decode cX8_readFor 168 = .ok (.getfield 25, 3) := by decide +kernel
theorem dX8_readFor_171 : decode cX8_readFor 171 = .ok (.goto 7, 3) := by decide +kernel
theorem dX8_readFor_174 : decode cX8_readFor 174 = .ok (.aload_n 0, 1) := by decide +kernel
theorem dX8_readFor_175 : decode cX8_readFor 175 = .ok (.getfield 153, 3) := by decide +kernel
theorem dX8_readFor_178 : decode cX8_readFor 178 = .ok (.putfield 153, 3) := by decide +kernel
theorem dX8_readFor_181 : decode cX8_readFor 181 = .ok (.aload_n 0, 1) := by decide +kernel
theorem dX8_readFor_182 : decode cX8_readFor 182 = .ok (.dup, 1) := by decide +kernel
theorem dX8_readFor_183 : decode cX8_readFor 183 = .ok (.getfield 156, 3) := by decide +kernel
theorem dX8_readFor_186 : decode cX8_readFor 186 = .ok (.aload_n 0, 1) := by decide +kernel
theorem dX8_readFor_187 : decode cX8_readFor 187 = .ok (.getfield 153, 3) := by decide +kernel
theorem dX8_readFor_190 : decode cX8_readFor 190 = .ok (.iadd, 1) := by decide +kernel
theorem dX8_readFor_191 : decode cX8_readFor 191 = .ok (.putfield 156, 3) := by decide +kernel
theorem dX8_readFor_194 : decode cX8_readFor 194 = .ok (.return_, 1) := by decide +kernel
theorem sd828_0 (F : zFx p l R s m args meth c D cid kv N0 xs Ls RX8 cX8_readFor 4 n0 z0 nF zE d) (IH : zAllM l D cid kv N0 xs Ls d) (hQ : ∀ v h, Qq v h → v = r0 ∧ h = hF) (hn : nF = zN hF) (hz : zE = zZ hF) (hlocks : meth.locks = false) (hr : meth.sig.returnType = none) : zSoL p l e R s m args below meth c D cid kv N0 xs Ls 4 (MQ below (zQc D cid kv N0 xs Ls ρ0 r0 hF) args s (nF - n0) (zE - z0) (zA N0)) ρ0 n0 z0 nF zE Qq (zCall d) zt828_0 := zc_so (si_aload_n F dX8_readFor_0 rfl)
  (zc_so (si_getR (k := 17) F rfl inT8 (by decide) (by decide) rfl rfl tb_721 dX8_readFor_1)
  (zc_so (si_iconst F dX8_readFor_4 rfl)
  (zc_so (si_iload_n F dX8_readFor_5 rfl)
  (zc_so (si_iastore F dX8_readFor_6)
  (zc_so (si_aload_n F dX8_readFor_7 rfl)
  (zc_so (si_getR (k := 17) F rfl inT8 (by decide) (by decide) rfl rfl tb_721 dX8_readFor_8)
  (zc_so (si_iconst F dX8_readFor_11 rfl)
  (zc_so (si_aload_n F dX8_readFor_12 rfl)
  (zc_so (si_iload_n F dX8_readFor_13 rfl)
  (zc_so (si_iconst F dX8_readFor_14 rfl)
  (zc_so (si_cV F (IH 808 mm808) mp808 (by decide) rfl rfl (by decide) tb_819 mi808 ms808 mn808 mc808 dX8_readFor_15)
  (zc_so (si_iastore F dX8_readFor_18)
  (zc_so (si_aload_n F dX8_readFor_19 rfl)
  (zc_so (si_getR (k := 17) F rfl inT8 (by decide) (by decide) rfl rfl tb_721 dX8_readFor_20)
  (zc_so (si_iconst F dX8_readFor_23 rfl)
  (zc_so (si_aload_n F dX8_readFor_24 rfl)
  (zc_so (si_iload_n F dX8_readFor_25 rfl)
  (zc_so (si_iconst F dX8_readFor_26 rfl)
  (zc_so (si_cV F (IH 808 mm808) mp808 (by decide) rfl rfl (by decide) tb_819 mi808 ms808 mn808 mc808 dX8_readFor_27)
  (zc_so (si_iastore F dX8_readFor_30)
  (zc_so (si_aload_n F dX8_readFor_31 rfl)
  (zc_so (si_getR (k := 17) F rfl inT8 (by decide) (by decide) rfl rfl tb_721 dX8_readFor_32)
  (zc_so (si_iconst F dX8_readFor_35 rfl)
  (zc_so (si_aload_n F dX8_readFor_36 rfl)
  (zc_so (si_iload_n F dX8_readFor_37 rfl)
  (zc_so (si_iconst F dX8_readFor_38 rfl)
  (zc_so (si_cV F (IH 808 mm808) mp808 (by decide) rfl rfl (by decide) tb_819 mi808 ms808 mn808 mc808 dX8_readFor_39)
  (zc_so (si_bipush F dX8_readFor_42 rfl)
  (zc_so (si_idiv F dX8_readFor_44)
  (zc_so (si_iastore F dX8_readFor_45)
  (zc_so (si_aload_n F dX8_readFor_46 rfl)
  (zc_so (si_getR (k := 17) F rfl inT8 (by decide) (by decide) rfl rfl tb_721 dX8_readFor_47)
  (zc_so (si_iconst F dX8_readFor_50 rfl)
  (zc_so (si_aload_n F dX8_readFor_51 rfl)
  (zc_so (si_iload_n F dX8_readFor_52 rfl)
  (zc_so (si_iconst F dX8_readFor_53 rfl)
  (zc_so (si_cV F (IH 808 mm808) mp808 (by decide) rfl rfl (by decide) tb_819 mi808 ms808 mn808 mc808 dX8_readFor_54)
  (zc_so (si_bipush F dX8_readFor_57 rfl)
  (zc_so (si_irem F dX8_readFor_59)
  (zc_so (si_iastore F dX8_readFor_60)
  (zc_so (si_aload_n F dX8_readFor_61 rfl)
  (zc_so (si_getR (k := 17) F rfl inT8 (by decide) (by decide) rfl rfl tb_721 dX8_readFor_62)
  (zc_nil)))))))))))))))))))))))))))))))))))))))))))
theorem sd828_1 (F : zFx p l R s m args meth c D cid kv N0 xs Ls RX8 cX8_readFor 4 n0 z0 nF zE d) (IH : zAllM l D cid kv N0 xs Ls d) (hQ : ∀ v h, Qq v h → v = r0 ∧ h = hF) (hn : nF = zN hF) (hz : zE = zZ hF) (hlocks : meth.locks = false) (hr : meth.sig.returnType = none) : zSoL p l e R s m args below meth c D cid kv N0 xs Ls 4 (MQ below (zQc D cid kv N0 xs Ls ρ0 r0 hF) args s (nF - n0) (zE - z0) (zA N0)) ρ0 n0 z0 nF zE Qq (zCall d) zt828_1 := zc_so (si_iconst F dX8_readFor_65 rfl)
  (zc_so (si_aload_n F dX8_readFor_66 rfl)
  (zc_so (si_getR (k := 0) F rfl inT8 (by decide) (by decide) rfl rfl tb_704 dX8_readFor_67)
  (zc_so (si_bipush F dX8_readFor_70 rfl)
  (zc_so (si_iaload F dX8_readFor_72)
  (zc_so (si_bipush F dX8_readFor_73 rfl)
  (zc_so (si_irem F dX8_readFor_75)
  (zc_so (si_iastore F dX8_readFor_76)
  (zc_so (si_aload_n F dX8_readFor_77 rfl)
  (zc_so (si_getR (k := 0) F rfl inT8 (by decide) (by decide) rfl rfl tb_704 dX8_readFor_78)
  (zc_so (si_bipush F dX8_readFor_81 rfl)
  (zc_so (si_iaload F dX8_readFor_83)
  (zc_so (si_ifne F dX8_readFor_84 rfl)
  (zc_so (si_aload_n F dX8_readFor_87 rfl)
  (zc_so (si_iconst F dX8_readFor_88 rfl)
  (zc_so (si_putI (k := 15) F rfl inT8 (by decide) (by decide) rfl rfl rfl rfl tyX8_ok nmX8 tb_719 dX8_readFor_89)
  (zc_so (si_aload_n F dX8_readFor_92 rfl)
  (zc_so (si_bipush F dX8_readFor_93 rfl)
  (zc_so (si_putI (k := 16) F rfl inT8 (by decide) (by decide) rfl rfl rfl rfl tyX8_ok nmX8 tb_720 dX8_readFor_95)
  (zc_so (si_goto F dX8_readFor_98 rfl)
  (zc_so (si_aload_n F dX8_readFor_101 rfl)
  (zc_so (si_getR (k := 0) F rfl inT8 (by decide) (by decide) rfl rfl tb_704 dX8_readFor_102)
  (zc_so (si_bipush F dX8_readFor_105 rfl)
  (zc_so (si_iaload F dX8_readFor_107)
  (zc_so (si_iconst F dX8_readFor_108 rfl)
  (zc_so (si_isub F dX8_readFor_109)
  (zc_so (si_istore_n F dX8_readFor_110 rfl)
  (zc_so (si_aload_n F dX8_readFor_111 rfl)
  (zc_so (si_aload_n F dX8_readFor_112 rfl)
  (zc_so (si_getR (k := 8) F rfl inT8 (by decide) (by decide) rfl rfl tb_712 dX8_readFor_113)
  (zc_so (si_iload_n F dX8_readFor_116 rfl)
  (zc_so (si_iaload F dX8_readFor_117)
  (zc_so (si_putI (k := 11) F rfl inT8 (by decide) (by decide) rfl rfl rfl rfl tyX8_ok nmX8 tb_715 dX8_readFor_118)
  (zc_so (si_iconst F dX8_readFor_121 rfl)
  (zc_so (si_istore_n F dX8_readFor_122 rfl)
  (zc_so (si_iload_n F dX8_readFor_123 rfl)
  (zc_so (si_aload_n F dX8_readFor_124 rfl)
  (zc_so (si_getI (k := 11) F rfl inT8 (by decide) (by decide) rfl rfl tb_715 dX8_readFor_125)
  (zc_nil))))))))))))))))))))))))))))))))))))))
theorem sd828_2 (F : zFx p l R s m args meth c D cid kv N0 xs Ls RX8 cX8_readFor 4 n0 z0 nF zE d) (IH : zAllM l D cid kv N0 xs Ls d) (hQ : ∀ v h, Qq v h → v = r0 ∧ h = hF) (hn : nF = zN hF) (hz : zE = zZ hF) (hlocks : meth.locks = false) (hr : meth.sig.returnType = none) : zSoL p l e R s m args below meth c D cid kv N0 xs Ls 4 (MQ below (zQc D cid kv N0 xs Ls ρ0 r0 hF) args s (nF - n0) (zE - z0) (zA N0)) ρ0 n0 z0 nF zE Qq (zCall d) zt828_2 := zc_so (si_icge F dX8_readFor_128 rfl)
  (zc_so (si_aload_n F dX8_readFor_131 rfl)
  (zc_so (si_getR (k := 10) F rfl inT8 (by decide) (by decide) rfl rfl tb_714 dX8_readFor_132)
  (zc_so (si_iload_n F dX8_readFor_135 rfl)
  (zc_so (si_aload_n F dX8_readFor_136 rfl)
  (zc_so (si_getR (k := 7) F rfl inT8 (by decide) (by decide) rfl rfl tb_711 dX8_readFor_137)
  (zc_so (si_bipush F dX8_readFor_140 rfl)
  (zc_so (si_iload_n F dX8_readFor_142 rfl)
  (zc_so (si_imul F dX8_readFor_143)
  (zc_so (si_iload_n F dX8_readFor_144 rfl)
  (zc_so (si_iadd F dX8_readFor_145)
  (zc_so (si_iaload F dX8_readFor_146)
  (zc_so (si_iastore F dX8_readFor_147)
  (zc_so (si_iinc F dX8_readFor_148 rfl)
  (zc_so (si_goto F dX8_readFor_151 rfl)
  (zc_so (si_aload_n F dX8_readFor_154 rfl)
  (zc_so (si_cV F (IH 827 mm827) mp827 (by decide) rfl rfl (by decide) tb_831 mi827 ms827 mn827 mc827 dX8_readFor_155)
  (zc_so (si_pop F dX8_readFor_158)
  (zc_so (si_aload_n F dX8_readFor_159 rfl)
  (zc_so (si_aload_n F dX8_readFor_160 rfl)
  (zc_so (si_getI (k := 4) F rfl inT8 (by decide) (by decide) rfl rfl tb_708 dX8_readFor_161)
  (zc_so (si_iflt F dX8_readFor_164 rfl)
  (zc_so (si_aload_n F dX8_readFor_167 rfl)
  (zc_so (si_getI (k := 4) F rfl inT8 (by decide) (by decide) rfl rfl tb_708 dX8_readFor_168)
  (zc_so (si_goto F dX8_readFor_171 rfl)
  (zc_so (si_aload_n F dX8_readFor_174 rfl)
  (zc_so (si_getI (k := 16) F rfl inT8 (by decide) (by decide) rfl rfl tb_720 dX8_readFor_175)
  (zc_so (si_putI (k := 16) F rfl inT8 (by decide) (by decide) rfl rfl rfl rfl tyX8_ok nmX8 tb_720 dX8_readFor_178)
  (zc_so (si_aload_n F dX8_readFor_181 rfl)
  (zc_so (si_dup F dX8_readFor_182)
  (zc_so (si_getI (k := 15) F rfl inT8 (by decide) (by decide) rfl rfl tb_719 dX8_readFor_183)
  (zc_so (si_aload_n F dX8_readFor_186 rfl)
  (zc_so (si_getI (k := 16) F rfl inT8 (by decide) (by decide) rfl rfl tb_720 dX8_readFor_187)
  (zc_so (si_iadd F dX8_readFor_190)
  (zc_so (si_putI (k := 15) F rfl inT8 (by decide) (by decide) rfl rfl rfl rfl tyX8_ok nmX8 tb_719 dX8_readFor_191)
  (zc_nil)))))))))))))))))))))))))))))))))))
theorem sd828_3 (F : zFx p l R s m args meth c D cid kv N0 xs Ls RX8 cX8_readFor 4 n0 z0 nF zE d) (IH : zAllM l D cid kv N0 xs Ls d) (hQ : ∀ v h, Qq v h → v = r0 ∧ h = hF) (hn : nF = zN hF) (hz : zE = zZ hF) (hlocks : meth.locks = false) (hr : meth.sig.returnType = none) : zSoL p l e R s m args below meth c D cid kv N0 xs Ls 4 (MQ below (zQc D cid kv N0 xs Ls ρ0 r0 hF) args s (nF - n0) (zE - z0) (zA N0)) ρ0 n0 z0 nF zE Qq (zCall d) zt828_3 := zc_so (si_rV F hQ hn hz hlocks hr dX8_readFor_194)
  (zc_nil)
theorem sd828 (F : zFx p l R s m args meth c D cid kv N0 xs Ls RX8 cX8_readFor 4 n0 z0 nF zE d) (IH : zAllM l D cid kv N0 xs Ls d) (hQ : ∀ v h, Qq v h → v = r0 ∧ h = hF) (hn : nF = zN hF) (hz : zE = zZ hF) (hlocks : meth.locks = false) (hr : meth.sig.returnType = none) (pc : Nat) : zSo p l e R s m args below meth c D cid kv N0 xs Ls 4 (MQ below (zQc D cid kv N0 xs Ls ρ0 r0 hF) args s (nF - n0) (zE - z0) (zA N0)) ρ0 n0 z0 nF zE Qq (zCall d) pc (zTab 828 pc) := zc_tab [zt828_0, zt828_1, zt828_2, zt828_3] (zc_cons (sd828_0 F IH hQ hn hz hlocks hr) (zc_cons (sd828_1 F IH hQ hn hz hlocks hr) (zc_cons (sd828_2 F IH hQ hn hz hlocks hr) (zc_cons (sd828_3 F IH hQ hn hz hlocks hr) zc_end))))
theorem dX8_season_0 : decode cX8_season 0 = .ok (.aload_n 0, 1) := by decide +kernel
theorem dX8_season_1 : decode cX8_season 1 = .ok (.getfield 165, 3) := by decide +kernel
theorem dX8_season_4 : decode cX8_season 4 = .ok (.bipush 6, 2) := by decide +kernel
theorem dX8_season_6 : decode cX8_season 6 = .ok (.if_icmp .ne 6, 3) := by decide +kernel
theorem dX8_season_9 : decode cX8_season 9 = .ok (.bipush (-4), 2) := by decide +kernel
theorem dX8_season_11 : decode cX8_season 11 = .ok (.ireturn, 1) := by decide +kernel
theorem dX8_season_12 : decode cX8_season 12 = .ok (.aload_n 0, 1) := by decide +kernel
theorem dX8_season_13 : decode cX8_season 13 = .ok (.aload_n 0, 1) := by decide +kernel
theorem dX8_season_14 : decode cX8_season 14 = .ok (.getfield 111, 3) := by decide +kernel
theorem dX8_season_17 : decode cX8_season 17 = .ok (.putfield 120, 3) := by decide +kernel
theorem dX8_season_20 : decode cX8_season 20 = .ok (.iconst 0, 1) := by decide +kernel
theorem dX8_season_21 : decode cX8_season 21 = .ok (.istore_n 1, 1) := by decide +kernel
theorem dX8_season_22 : decode cX8_season 22 = .ok (.iload_n 1, 1) := by decide +kernel
theorem dX8_season_23 : decode cX8_season 23 = .ok (.aload_n 0, 1) := by decide +kernel
theorem dX8_season_24 : decode cX8_season 24 = .ok (.getfield 120, 3) := by decide +kernel
theorem dX8_season_27 : decode cX8_season 27 = .ok (.if_icmp .ge 21, 3) := by decide +kernel
theorem dX8_season_30 : decode cX8_season 30 = .ok (.aload_n 0, 1) := by decide +kernel
theorem dX8_season_31 : decode cX8_season 31 = .ok (.getfield 38, 3) := by decide +kernel
theorem dX8_season_34 : decode cX8_season 34 = .ok (.iload_n 1, 1) := by decide +kernel
theorem dX8_season_35 : decode cX8_season 35 = .ok (.aload_n 0, 1) := by decide +kernel
theorem dX8_season_36 : decode cX8_season 36 = .ok (.getfield 29, 3) := by decide +kernel
theorem dX8_season_39 : decode cX8_season 39 = .ok (.iload_n 1, 1) := by decide +kernel
theorem dX8_season_40 : decode cX8_season 40 = .ok (.iaload, 1) := by decide +kernel
theorem dX8_season_41 : decode cX8_season 41 = .ok (.iastore, 1) := by decide +kernel
theorem dX8_season_42 : decode cX8_season 42 = .ok (.iinc 1 1, 3) := by decide +kernel
theorem dX8_season_45 : decode cX8_season 45 = .ok (.goto (-23), 3) := by decide +kernel
theorem dX8_season_48 : decode cX8_season 48 = .ok (.aload_n 0, 1) := by decide +kernel
theorem dX8_season_49 : decode cX8_season 49 = .ok (.iconst 0, 1) := by decide +kernel
theorem dX8_season_50 : decode cX8_season 50 = .ok (.putfield 111, 3) := by decide +kernel
theorem dX8_season_53 : decode cX8_season 53 = .ok (.aload_n 0, 1) := by decide +kernel
theorem dX8_season_54 : decode cX8_season 54 = .ok (.invokevirtual 162, 3) := by decide +kernel
theorem dX8_season_57 : decode cX8_season 57 = .ok (.ifCond .ne 11, 3) := by decide +kernel
theorem dX8_season_60 : decode cX8_season 60 = .ok (.bipush (-10), 2) := by decide +kernel
theorem dX8_season_62 : decode cX8_season 62 = .ok (.aload_n 0, 1) := by decide +kernel
theorem dX8_season_63 : decode cX8_season 63 = .ok (.getfield 117, 3) := by decide +kernel
theorem dX8_season_66 : decode cX8_season 66 = .ok (.isub, 1) := by decide +kernel
theorem dX8_season_67 : decode cX8_season 67 = .ok (.ireturn, 1) := by decide +kernel
theorem dX8_season_68 : decode cX8_season 68 = .ok (.iconst 0, 1) := by decide +kernel
theorem dX8_season_69 : decode cX8_season 69 = .ok (.istore_n 1, 1) := by decide +kernel
theorem dX8_season_70 : decode cX8_season 70 = .ok (.iload_n 1, 1) := by decide +kernel
theorem dX8_season_71 : decode cX8_season 71 = .ok (.aload_n 0, 1) := by decide +kernel
theorem dX8_season_72 : decode cX8_season 72 = .ok (.getfield 120, 3) := by decide +kernel
theorem dX8_season_75 : decode cX8_season 75 = .ok (.if_icmp .ge 29, 3) := by decide +kernel
theorem dX8_season_78 : decode cX8_season 78 = .ok (.aload_n 0, 1) := by decide +kernel
theorem dX8_season_79 : decode cX8_season 79 = .ok (.getfield 32, 3) := by decide +kernel
theorem dX8_season_82 : decode cX8_season 82 = .ok (.bipush 100, 2) := by decide +kernel
theorem dX8_season_84 : decode cX8_season 84 = .ok (.aload_n 0, 1) := by decide +kernel
theorem dX8_season_85 : decode cX8_season 85 = .ok (.getfield 165, 3) := by decide +kernel
theorem dX8_season_88 : decode cX8_season 88 = .ok (.imul, 1) := by decide +kernel
theorem dX8_season_89 : decode cX8_season 89 = .ok (.iload_n 1, 1) := by decide +kernel
theorem dX8_season_90 : decode cX8_season 90 = .ok (.iadd, 1) := by decide +kernel
theorem dX8_season_91 : decode cX8_season 91 = .ok (.aload_n 0, 1) := by decide +kernel
theorem dX8_season_92 : decode cX8_season 92 = .ok (.getfield 38, 3) := by decide +kernel
theorem dX8_season_95 : decode cX8_season 95 = .ok (.iload_n 1, 1) := by decide +kernel
theorem dX8_season_96 : decode cX8_season 96 = .ok (.iaload, 1) := by decide +kernel
theorem dX8_season_97 : decode cX8_season 97 = .ok (.iastore, 1) := by decide +kernel
theorem dX8_season_98 : decode cX8_season 98 = .ok (.iinc 1 1, 3) := by decide +kernel
theorem dX8_season_101 : decode cX8_season 101 = .ok (.goto (-31), 3) := by decide +kernel
theorem dX8_season_104 : decode cX8_season 104 = .ok (.aload_n 0, 1) := by decide +kernel
theorem dX8_season_105 : decode cX8_season 105 = .ok (.getfield 35, 3) := by decide +kernel
theorem dX8_season_108 : decode cX8_season 108 = .ok (.aload_n 0, 1) := by decide +kernel
theorem dX8_season_109 : decode cX8_season 109 = .ok (.getfield 165, 3) := by decide +kernel
theorem dX8_season_112 : decode cX8_season 112 = .ok (.aload_n 0, 1) := by decide +kernel
theorem dX8_season_113 : decode cX8_season 113 = .ok (.getfield 120, 3) := by decide +kernel
theorem dX8_season_116 : decode cX8_season 116 = .ok (.iastore, 1) := by decide +kernel
theorem dX8_season_117 : decode cX8_season 117 = .ok (.aload_n 0, 1) := by decide +kernel
theorem dX8_season_118 : decode cX8_season 118 = .ok (.dup, 1) := by decide +kernel
theorem dX8_season_119 : decode cX8_season 119 = .ok (.getfield 165, 3) := by decide +kernel
theorem dX8_season_122 : decode cX8_season 122 = .ok (.iconst 1, 1) := by decide +kernel
theorem dX8_season_123 : decode cX8_season 123 = .ok (.iadd, 1) := by decide +kernel
theorem dX8_season_124 : decode cX8_season 124 = .ok (.putfield 165, 3) := by decide +kernel
theorem dX8_season_127 : decode cX8_season 127 = .ok (.aload_n 0, 1) := by decide +kernel
theorem dX8_season_128 : decode cX8_season 128 = .ok (.getfield 15, 3) := by decide +kernel
theorem dX8_season_131 : decode cX8_season 131 = .ok (.bipush 63, 2) := by decide +kernel
theorem dX8_season_133 : decode cX8_season 133 = .ok (.aload_n 0, 1) := by decide +kernel
theorem dX8_season_134 : decode cX8_season 134 = .ok (.getfield 165, 3) := by decide +kernel
theorem dX8_season_137 : decode cX8_season 137 = .ok (.iastore, 1) := by decide +kernel
theorem dX8_season_138 : decode cX8_season 138 = .ok (.aload_n 0, 1) := by decide +kernel
theorem dX8_season_139 : decode cX8_season 139 = .ok (.getfield 165, 3) := by decide +kernel
theorem dX8_season_142 : decode cX8_season 142 = .ok (.iconst 1, 1) := by decide +kernel
theorem dX8_season_143 : decode cX8_season 143 = .ok (.isub, 1) := by decide +kernel
theorem dX8_season_144 : decode cX8_season 144 = .ok (.ireturn, 1) := by decide +kernel
theorem sd829_0 (F : zFx p l R s m args meth c D cid kv N0 xs Ls RX8 cX8_season 2 n0 z0 nF zE d) (IH : zAllM l D cid kv N0 xs Ls d) (hQ : ∀ v h, Qq v h → v = r0 ∧ h = hF) (hn : nF = zN hF) (hz : zE = zZ hF) (hlocks : meth.locks = false) (hr : meth.sig.returnType = (some .int)) : zSoL p l e R s m args below meth c D cid kv N0 xs Ls 2 (MQ below (zQc D cid kv N0 xs Ls ρ0 r0 hF) args s (nF - n0) (zE - z0) (zA N0)) ρ0 n0 z0 nF zE Qq (zCall d) zt829_0 := zc_so (si_aload_n F dX8_season_0 rfl)
  (zc_so (si_getI (k := 9) F rfl inT8 (by decide) (by decide) rfl rfl tb_713 dX8_season_1)
  (zc_so (si_bipush F dX8_season_4 rfl)
  (zc_so (si_icne F dX8_season_6 rfl)
  (zc_so (si_bipush F dX8_season_9 rfl)
  (zc_so (si_rI F hQ hn hz hlocks hr (fun _ _ => rfl) dX8_season_11)
  (zc_so (si_aload_n F dX8_season_12 rfl)
  (zc_so (si_aload_n F dX8_season_13 rfl)
  (zc_so (si_getI (k := 6) F rfl inT8 (by decide) (by decide) rfl rfl tb_710 dX8_season_14)
  (zc_so (si_putI (k := 11) F rfl inT8 (by decide) (by decide) rfl rfl rfl rfl tyX8_ok nmX8 tb_715 dX8_season_17)
  (zc_so (si_iconst F dX8_season_20 rfl)
  (zc_so (si_istore_n F dX8_season_21 rfl)
  (zc_so (si_iload_n F dX8_season_22 rfl)
  (zc_so (si_aload_n F dX8_season_23 rfl)
  (zc_so (si_getI (k := 11) F rfl inT8 (by decide) (by decide) rfl rfl tb_715 dX8_season_24)
  (zc_so (si_icge F dX8_season_27 rfl)
  (zc_so (si_aload_n F dX8_season_30 rfl)
  (zc_so (si_getR (k := 10) F rfl inT8 (by decide) (by decide) rfl rfl tb_714 dX8_season_31)
  (zc_so (si_iload_n F dX8_season_34 rfl)
  (zc_so (si_aload_n F dX8_season_35 rfl)
  (zc_so (si_getR (k := 5) F rfl inT8 (by decide) (by decide) rfl rfl tb_709 dX8_season_36)
  (zc_so (si_iload_n F dX8_season_39 rfl)
  (zc_so (si_iaload F dX8_season_40)
  (zc_so (si_iastore F dX8_season_41)
  (zc_so (si_iinc F dX8_season_42 rfl)
  (zc_so (si_goto F dX8_season_45 rfl)
  (zc_so (si_aload_n F dX8_season_48 rfl)
  (zc_so (si_iconst F dX8_season_49 rfl)
  (zc_so (si_putI (k := 6) F rfl inT8 (by decide) (by decide) rfl rfl rfl rfl tyX8_ok nmX8 tb_710 dX8_season_50)
  (zc_so (si_aload_n F dX8_season_53 rfl)
  (zc_so (si_cV F (IH 827 mm827) mp827 (by decide) rfl rfl (by decide) tb_831 mi827 ms827 mn827 mc827 dX8_season_54)
  (zc_so (si_ifne F dX8_season_57 rfl)
  (zc_so (si_bipush F dX8_season_60 rfl)
  (zc_so (si_aload_n F dX8_season_62 rfl)
  (zc_so (si_getI (k := 12) F rfl inT8 (by decide) (by decide) rfl rfl tb_716 dX8_season_63)
  (zc_nil)))))))))))))))))))))))))))))))))))
theorem sd829_1 (F : zFx p l R s m args meth c D cid kv N0 xs Ls RX8 cX8_season 2 n0 z0 nF zE d) (IH : zAllM l D cid kv N0 xs Ls d) (hQ : ∀ v h, Qq v h → v = r0 ∧ h = hF) (hn : nF = zN hF) (hz : zE = zZ hF) (hlocks : meth.locks = false) (hr : meth.sig.returnType = (some .int)) : zSoL p l e R s m args below meth c D cid kv N0 xs Ls 2 (MQ below (zQc D cid kv N0 xs Ls ρ0 r0 hF) args s (nF - n0) (zE - z0) (zA N0)) ρ0 n0 z0 nF zE Qq (zCall d) zt829_1 := zc_so (si_isub F dX8_season_66)
  (zc_so (si_rI F hQ hn hz hlocks hr (fun _ _ => rfl) dX8_season_67)
  (zc_so (si_iconst F dX8_season_68 rfl)
  (zc_so (si_istore_n F dX8_season_69 rfl)
  (zc_so (si_iload_n F dX8_season_70 rfl)
  (zc_so (si_aload_n F dX8_season_71 rfl)
  (zc_so (si_getI (k := 11) F rfl inT8 (by decide) (by decide) rfl rfl tb_715 dX8_season_72)
  (zc_so (si_icge F dX8_season_75 rfl)
  (zc_so (si_aload_n F dX8_season_78 rfl)
  (zc_so (si_getR (k := 7) F rfl inT8 (by decide) (by decide) rfl rfl tb_711 dX8_season_79)
  (zc_so (si_bipush F dX8_season_82 rfl)
  (zc_so (si_aload_n F dX8_season_84 rfl)
  (zc_so (si_getI (k := 9) F rfl inT8 (by decide) (by decide) rfl rfl tb_713 dX8_season_85)
  (zc_so (si_imul F dX8_season_88)
  (zc_so (si_iload_n F dX8_season_89 rfl)
  (zc_so (si_iadd F dX8_season_90)
  (zc_so (si_aload_n F dX8_season_91 rfl)
  (zc_so (si_getR (k := 10) F rfl inT8 (by decide) (by decide) rfl rfl tb_714 dX8_season_92)
  (zc_so (si_iload_n F dX8_season_95 rfl)
  (zc_so (si_iaload F dX8_season_96)
  (zc_so (si_iastore F dX8_season_97)
  (zc_so (si_iinc F dX8_season_98 rfl)
  (zc_so (si_goto F dX8_season_101 rfl)
  (zc_so (si_aload_n F dX8_season_104 rfl)
  (zc_so (si_getR (k := 8) F rfl inT8 (by decide) (by decide) rfl rfl tb_712 dX8_season_105)
  (zc_so (si_aload_n F dX8_season_108 rfl)
  (zc_so (si_getI (k := 9) F rfl inT8 (by decide) (by decide) rfl rfl tb_713 dX8_season_109)
  (zc_so (si_aload_n F dX8_season_112 rfl)
  (zc_so (si_getI (k := 11) F rfl inT8 (by decide) (by decide) rfl rfl tb_715 dX8_season_113)
  (zc_so (si_iastore F dX8_season_116)
  (zc_so (si_aload_n F dX8_season_117 rfl)
  (zc_so (si_dup F dX8_season_118)
  (zc_so (si_getI (k := 9) F rfl inT8 (by decide) (by decide) rfl rfl tb_713 dX8_season_119)
  (zc_so (si_iconst F dX8_season_122 rfl)
  (zc_so (si_iadd F dX8_season_123)
  (zc_so (si_putI (k := 9) F rfl inT8 (by decide) (by decide) rfl rfl rfl rfl tyX8_ok nmX8 tb_713 dX8_season_124)
  (zc_so (si_aload_n F dX8_season_127 rfl)
  (zc_nil)))))))))))))))))))))))))))))))))))))
theorem sd829_2 (F : zFx p l R s m args meth c D cid kv N0 xs Ls RX8 cX8_season 2 n0 z0 nF zE d) (IH : zAllM l D cid kv N0 xs Ls d) (hQ : ∀ v h, Qq v h → v = r0 ∧ h = hF) (hn : nF = zN hF) (hz : zE = zZ hF) (hlocks : meth.locks = false) (hr : meth.sig.returnType = (some .int)) : zSoL p l e R s m args below meth c D cid kv N0 xs Ls 2 (MQ below (zQc D cid kv N0 xs Ls ρ0 r0 hF) args s (nF - n0) (zE - z0) (zA N0)) ρ0 n0 z0 nF zE Qq (zCall d) zt829_2 := zc_so (si_getR (k := 0) F rfl inT8 (by decide) (by decide) rfl rfl tb_704 dX8_season_128)
  (zc_so (si_bipush F dX8_season_131 rfl)
  (zc_so (si_aload_n F dX8_season_133 rfl)
  (zc_so (si_getI (k := 9) F rfl inT8 (by decide) (by decide) rfl rfl tb_713 dX8_season_134)
  (zc_so (si_iastore F dX8_season_137)
  (zc_so (si_aload_n F dX8_season_138 rfl)
  (zc_so (si_getI (k := 9) F rfl inT8 (by decide) (by decide) rfl rfl tb_713 dX8_season_139)
  (zc_so (si_iconst F dX8_season_142 rfl)
  (zc_so (si_isub F dX8_season_143)
  (zc_so (si_rI F hQ hn hz hlocks hr (fun _ _ => rfl) dX8_season_144)
  (zc_nil))))))))))
theorem sd829 (F : zFx p l R s m args meth c D cid kv N0 xs Ls RX8 cX8_season 2 n0 z0 nF zE d) (IH : zAllM l D cid kv N0 xs Ls d) (hQ : ∀ v h, Qq v h → v = r0 ∧ h = hF) (hn : nF = zN hF) (hz : zE = zZ hF) (hlocks : meth.locks = false) (hr : meth.sig.returnType = (some .int)) (pc : Nat) : zSo p l e R s m args below meth c D cid kv N0 xs Ls 2 (MQ below (zQc D cid kv N0 xs Ls ρ0 r0 hF) args s (nF - n0) (zE - z0) (zA N0)) ρ0 n0 z0 nF zE Qq (zCall d) pc (zTab 829 pc) := zc_tab [zt829_0, zt829_1, zt829_2] (zc_cons (sd829_0 F IH hQ hn hz hlocks hr) (zc_cons (sd829_1 F IH hQ hn hz hlocks hr) (zc_cons (sd829_2 F IH hQ hn hz hlocks hr) zc_end)))
theorem dX8_isAnother_0 : decode cX8_isAnother 0 = .ok (.iconst 0, 1) := by decide +kernel
theorem dX8_isAnother_1 : decode cX8_isAnother 1 = .ok (.istore_n 2, 1) := by decide +kernel
theorem dX8_isAnother_2 : decode cX8_isAnother 2 = .ok (.iconst 0, 1) := by decide +kernel
theorem dX8_isAnother_3 : decode cX8_isAnother 3 = .ok (.istore_n 3, 1) := by decide +kernel
theorem dX8_isAnother_4 : decode cX8_isAnother 4 = .ok (.iload_n 3, 1) := by decide +kernel
theorem dX8_isAnother_5 : decode cX8_isAnother 5 = .ok (.aload_n 0, 1) := by decide +kernel
theorem dX8_isAnother_6 : decode cX8_isAnother 6 = .ok (.getfield 15, 3) := by decide +kernel
theorem dX8_isAnother_9 : decode cX8_isAnother 9 = .ok (.bipush 60, 2) := by decide +kernel
theorem dX8_isAnother_11 : decode cX8_isAnother 11 = .ok (.iaload, 1) := by decide +kernel
theorem dX8_isAnother_12 : decode cX8_isAnother 12 = .ok (.if_icmp .ge 34, 3) := by decide +kernel
theorem dX8_isAnother_15 : decode cX8_isAnother 15 = .ok (.iload_n 2, 1) := by decide +kernel
theorem dX8_isAnother_16 : decode cX8_isAnother 16 = .ok (.ifCond .ne 18, 3) := by decide +kernel
theorem dX8_isAnother_19 : decode cX8_isAnother 19 = .ok (.iload_n 3, 1) := by decide +kernel
theorem dX8_isAnother_20 : decode cX8_isAnother 20 = .ok (.iload_n 1, 1) := by decide +kernel
theorem dX8_isAnother_21 : decode cX8_isAnother 21 = .ok (.if_icmp .eq 17, 3) := by decide +kernel
theorem dX8_isAnother_24 : decode cX8_isAnother 24 = .ok (.aload_n 0, 1) := by decide +kernel
theorem dX8_isAnother_25 : decode cX8_isAnother 25 = .ok (.iload_n 3, 1) := by decide +kernel
theorem dX8_isAnother_26 : decode cX8_isAnother 26 = .ok (.iconst 3, 1) := by decide +kernel
theorem dX8_isAnother_27 : decode cX8_isAnother 27 = .ok (.invokevirtual 88, 3) := by decide +kernel
theorem dX8_isAnother_30 : decode cX8_isAnother 30 = .ok (.iconst 5, 1) := by decide +kernel
theorem dX8_isAnother_31 : decode cX8_isAnother 31 = .ok (.if_icmp .ne 7, 3) := by decide +kernel
theorem dX8_isAnother_34 : decode cX8_isAnother 34 = .ok (.iconst 1, 1) := by decide +kernel
theorem dX8_isAnother_35 : decode cX8_isAnother 35 = .ok (.goto 4, 3) := by decide +kernel
theorem dX8_isAnother_38 : decode cX8_isAnother 38 = .ok (.iconst 0, 1) := by decide +kernel
theorem dX8_isAnother_39 : decode cX8_isAnother 39 = .ok (.istore_n 2, 1) := by decide +kernel
theorem dX8_isAnother_40 : decode cX8_isAnother 40 = .ok (.iinc 3 1, 3) := by decide +kernel
theorem dX8_isAnother_43 : decode cX8_isAnother 43 = .ok (.goto (-39), 3) := by decide +kernel
theorem dX8_isAnother_46 : decode cX8_isAnother 46 = .ok (.iload_n 2, 1) := by decide +kernel
theorem dX8_isAnother_47 : decode cX8_isAnother 47 = .ok (.ireturn, 1) := by decide +kernel
theorem sd830_0 (F : zFx p l R s m args meth c D cid kv N0 xs Ls RX8 cX8_isAnother 4 n0 z0 nF zE d) (IH : zAllM l D cid kv N0 xs Ls d) (hQ : ∀ v h, Qq v h → v = r0 ∧ h = hF) (hn : nF = zN hF) (hz : zE = zZ hF) (hlocks : meth.locks = false) (hr : meth.sig.returnType = (some .boolean)) : zSoL p l e R s m args below meth c D cid kv N0 xs Ls 4 (MQ below (zQc D cid kv N0 xs Ls ρ0 r0 hF) args s (nF - n0) (zE - z0) (zA N0)) ρ0 n0 z0 nF zE Qq (zCall d) zt830_0 := zc_so (si_iconst F dX8_isAnother_0 rfl)
  (zc_so (si_istore_n F dX8_isAnother_1 rfl)
  (zc_so (si_iconst F dX8_isAnother_2 rfl)
  (zc_so (si_istore_n F dX8_isAnother_3 rfl)
  (zc_so (si_iload_n F dX8_isAnother_4 rfl)
  (zc_so (si_aload_n F dX8_isAnother_5 rfl)
  (zc_so (si_getR (k := 0) F rfl inT8 (by decide) (by decide) rfl rfl tb_704 dX8_isAnother_6)
  (zc_so (si_bipush F dX8_isAnother_9 rfl)
  (zc_so (si_iaload F dX8_isAnother_11)
  (zc_so (si_icge F dX8_isAnother_12 rfl)
  (zc_so (si_iload_n F dX8_isAnother_15 rfl)
  (zc_so (si_ifne F dX8_isAnother_16 rfl)
  (zc_so (si_iload_n F dX8_isAnother_19 rfl)
  (zc_so (si_iload_n F dX8_isAnother_20 rfl)
  (zc_so (si_iceq F dX8_isAnother_21 rfl)
  (zc_so (si_aload_n F dX8_isAnother_24 rfl)
  (zc_so (si_iload_n F dX8_isAnother_25 rfl)
  (zc_so (si_iconst F dX8_isAnother_26 rfl)
  (zc_so (si_cV F (IH 808 mm808) mp808 (by decide) rfl rfl (by decide) tb_819 mi808 ms808 mn808 mc808 dX8_isAnother_27)
  (zc_so (si_iconst F dX8_isAnother_30 rfl)
  (zc_so (si_icne F dX8_isAnother_31 rfl)
  (zc_so (si_iconst F dX8_isAnother_34 rfl)
  (zc_so (si_goto F dX8_isAnother_35 rfl)
  (zc_so (si_iconst F dX8_isAnother_38 rfl)
  (zc_so (si_istore_n F dX8_isAnother_39 rfl)
  (zc_so (si_iinc F dX8_isAnother_40 rfl)
  (zc_so (si_goto F dX8_isAnother_43 rfl)
  (zc_so (si_iload_n F dX8_isAnother_46 rfl)
  (zc_so (si_rI F hQ hn hz hlocks hr (fun x h => by rcases h with rfl | rfl <;> rfl) dX8_isAnother_47)
  (zc_nil)))))))))))))))))))))))))))))
theorem sd830 (F : zFx p l R s m args meth c D cid kv N0 xs Ls RX8 cX8_isAnother 4 n0 z0 nF zE d) (IH : zAllM l D cid kv N0 xs Ls d) (hQ : ∀ v h, Qq v h → v = r0 ∧ h = hF) (hn : nF = zN hF) (hz : zE = zZ hF) (hlocks : meth.locks = false) (hr : meth.sig.returnType = (some .boolean)) (pc : Nat) : zSo p l e R s m args below meth c D cid kv N0 xs Ls 4 (MQ below (zQc D cid kv N0 xs Ls ρ0 r0 hF) args s (nF - n0) (zE - z0) (zA N0)) ρ0 n0 z0 nF zE Qq (zCall d) pc (zTab 830 pc) := zc_tab [zt830_0] (zc_cons (sd830_0 F IH hQ hn hz hlocks hr) zc_end)
theorem dX8_offer_0 : decode cX8_offer 0 = .ok (.aload_n 0, 1) := by decide +kernel
theorem dX8_offer_1 : decode cX8_offer 1 = .ok (.iload_n 1, 1) := by decide +kernel
theorem dX8_offer_2 : decode cX8_offer 2 = .ok (.invokevirtual 168, 3) := by decide +kernel
theorem dX8_offer_5 : decode cX8_offer 5 = .ok (.aload_n 0, 1) := by decide +kernel
theorem dX8_offer_6 : decode cX8_offer 6 = .ok (.getfield 156, 3) := by decide +kernel
theorem dX8_offer_9 : decode cX8_offer 9 = .ok (.aload_n 0, 1) := by decide +kernel
theorem dX8_offer_10 : decode cX8_offer 10 = .ok (.iload_n 1, 1) := by decide +kernel
theorem dX8_offer_11 : decode cX8_offer 11 = .ok (.iconst 1, 1) := by decide +kernel
theorem dX8_offer_12 : decode cX8_offer 12 = .ok (.invokevirtual 88, 3) := by decide +kernel
theorem dX8_offer_15 : decode cX8_offer 15 = .ok (.iadd, 1) := by decide +kernel
theorem dX8_offer_16 : decode cX8_offer 16 = .ok (.istore_n 2, 1) := by decide +kernel
theorem dX8_offer_17 : decode cX8_offer 17 = .ok (.aload_n 0, 1) := by decide +kernel
theorem dX8_offer_18 : decode cX8_offer 18 = .ok (.getfield 156, 3) := by decide +kernel
theorem dX8_offer_21 : decode cX8_offer 21 = .ok (.bipush 10, 2) := by decide +kernel
theorem dX8_offer_23 : decode cX8_offer 23 = .ok (.aload_n 0, 1) := by decide +kernel
theorem dX8_offer_24 : decode cX8_offer 24 = .ok (.iload_n 1, 1) := by decide +kernel
theorem dX8_offer_25 : decode cX8_offer 25 = .ok (.iconst 5, 1) := by decide +kernel
theorem dX8_offer_26 : decode cX8_offer 26 = .ok (.invokevirtual 88, 3) := by decide +kernel
theorem dX8_offer_29 : decode cX8_offer 29 = .ok (.invokestatic 171, 3) := by decide +kernel
theorem dX8_offer_32 : decode cX8_offer 32 = .ok (.isub, 1) := by decide +kernel
theorem dX8_offer_33 : decode cX8_offer 33 = .ok (.istore_n 3, 1) := by decide +kernel
theorem dX8_offer_34 : decode cX8_offer 34 = .ok (.aload_n 0, 1) := by decide +kernel
theorem dX8_offer_35 : decode cX8_offer 35 = .ok (.iload_n 1, 1) := by decide +kernel
theorem dX8_offer_36 : decode cX8_offer 36 = .ok (.iconst 0, 1) := by decide +kernel
theorem dX8_offer_37 : decode cX8_offer 37 = .ok (.invokevirtual 88, 3) := by decide +kernel
theorem dX8_offer_40 : decode cX8_offer 40 = .ok (.tableswitch 113 1 6 #[40, 42, 49, 51, 67, 93], 40) := by decide +kernel
theorem dX8_offer_80 : decode cX8_offer 80 = .ok (.iload_n 2, 1) := by decide +kernel
theorem dX8_offer_81 : decode cX8_offer 81 = .ok (.ireturn, 1) := by decide +kernel
theorem dX8_offer_82 : decode cX8_offer 82 = .ok (.aload_n 0, 1) := by decide +kernel
theorem dX8_offer_83 : decode cX8_offer 83 = .ok (.getfield 156, 3) := by decide +kernel
theorem dX8_offer_86 : decode cX8_offer 86 = .ok (.iconst 2, 1) := by decide +kernel
theorem dX8_offer_87 : decode cX8_offer 87 = .ok (.idiv, 1) := by decide +kernel
theorem dX8_offer_88 : decode cX8_offer 88 = .ok (.ireturn, 1) := by decide +kernel
theorem dX8_offer_89 : decode cX8_offer 89 = .ok (.iload_n 3, 1) := by decide +kernel
theorem dX8_offer_90 : decode cX8_offer 90 = .ok (.ireturn, 1) := by decide +kernel
theorem dX8_offer_91 : decode cX8_offer 91 = .ok (.aload_n 0, 1) := by decide +kernel
theorem dX8_offer_92 : decode cX8_offer 92 = .ok (.iload_n 1, 1) := by decide +kernel
theorem dX8_offer_93 : decode cX8_offer 93 = .ok (.invokevirtual 176, 3) := by decide +kernel
theorem dX8_offer_96 : decode cX8_offer 96 = .ok (.ifCond .eq 9, 3) := by decide +kernel
theorem dX8_offer_99 : decode cX8_offer 99 = .ok (.iconst 2, 1) := by decide +kernel
theorem dX8_offer_100 : decode cX8_offer 100 = .ok (.iload_n 2, 1) := by decide +kernel
theorem dX8_offer_101 : decode cX8_offer 101 = .ok (.imul, 1) := by decide +kernel
theorem dX8_offer_102 : decode cX8_offer 102 = .ok (.goto 4, 3) := by decide +kernel
theorem dX8_offer_105 : decode cX8_offer 105 = .ok (.iload_n 2, 1) := by decide +kernel
theorem dX8_offer_106 : decode cX8_offer 106 = .ok (.ireturn, 1) := by decide +kernel
theorem dX8_offer_107 : decode cX8_offer 107 = .ok (.aload_n 0, 1) := by decide +kernel
theorem dX8_offer_108 : decode cX8_offer 108 = .ok (.getfield 156, 3) := by decide +kernel
theorem dX8_offer_111 : decode cX8_offer 111 = .ok (.iconst 2, 1) := by decide +kernel
theorem dX8_offer_112 : decode cX8_offer 112 = .ok (.idiv, 1) := by decide +kernel
theorem dX8_offer_113 : decode cX8_offer 113 = .ok (.aload_n 0, 1) := by decide +kernel
theorem dX8_offer_114 : decode cX8_offer 114 = .ok (.getfield 15, 3) := by decide +kernel
theorem dX8_offer_117 : decode cX8_offer 117 = .ok (.bipush 62, 2) := by decide +kernel
theorem dX8_offer_119 : decode cX8_offer 119 = .ok (.iaload, 1) := by decide +kernel
theorem dX8_offer_120 : decode cX8_offer 120 = .ok (.bipush 7, 2) := by decide +kernel
theorem dX8_offer_122 : decode cX8_offer 122 = .ok (.irem, 1) := by decide +kernel
theorem dX8_offer_123 : decode cX8_offer 123 = .ok (.ifCond .ne 7, 3) := by decide +kernel
theorem dX8_offer_126 : decode cX8_offer 126 = .ok (.iconst 5, 1) := by decide +kernel
theorem dX8_offer_127 : decode cX8_offer 127 = .ok (.goto 4, 3) := by decide +kernel
theorem dX8_offer_130 : decode cX8_offer 130 = .ok (.iconst 0, 1) := by decide +kernel
theorem dX8_offer_131 : decode cX8_offer 131 = .ok (.iadd, 1) := by decide +kernel
theorem dX8_offer_132 : decode cX8_offer 132 = .ok (.ireturn, 1) := by decide +kernel
theorem dX8_offer_133 : decode cX8_offer 133 = .ok (.iload_n 3, 1) := by decide +kernel
theorem dX8_offer_134 : decode cX8_offer 134 = .ok (.aload_n 0, 1) := by decide +kernel
theorem dX8_offer_135 : decode cX8_offer 135 = .ok (.iload_n 1, 1) := by decide +kernel
theorem dX8_offer_136 : decode cX8_offer 136 = .ok (.bipush 6, 2) := by decide +kernel
theorem dX8_offer_138 : decode cX8_offer 138 = .ok (.aload_n 0, 1) := by decide +kernel
theorem dX8_offer_139 : decode cX8_offer 139 = .ok (.getfield 15, 3) := by decide +kernel
theorem dX8_offer_142 : decode cX8_offer 142 = .ok (.bipush 62, 2) := by decide +kernel
theorem dX8_offer_144 : decode cX8_offer 144 = .ok (.iaload, 1) := by decide +kernel
theorem dX8_offer_145 : decode cX8_offer 145 = .ok (.iconst 4, 1) := by decide +kernel
theorem dX8_offer_146 : decode cX8_offer 146 = .ok (.irem, 1) := by decide +kernel
theorem dX8_offer_147 : decode cX8_offer 147 = .ok (.iadd, 1) := by decide +kernel
theorem dX8_offer_148 : decode cX8_offer 148 = .ok (.invokevirtual 88, 3) := by decide +kernel
theorem dX8_offer_151 : decode cX8_offer 151 = .ok (.iadd, 1) := by decide +kernel
theorem dX8_offer_152 : decode cX8_offer 152 = .ok (.ireturn, 1) := by decide +kernel
theorem dX8_offer_153 : decode cX8_offer 153 = .ok (.aload_n 0, 1) := by decide +kernel
theorem dX8_offer_154 : decode cX8_offer 154 = .ok (.getfield 156, 3) := by decide +kernel
theorem dX8_offer_157 : decode cX8_offer 157 = .ok (.ireturn, 1) := by decide +kernel
theorem sd831_0 (F : zFx p l R s m args meth c D cid kv N0 xs Ls RX8 cX8_offer 4 n0 z0 nF zE d) (IH : zAllM l D cid kv N0 xs Ls d) (hQ : ∀ v h, Qq v h → v = r0 ∧ h = hF) (hn : nF = zN hF) (hz : zE = zZ hF) (hlocks : meth.locks = false) (hr : meth.sig.returnType = (some .int)) : zSoL p l e R s m args below meth c D cid kv N0 xs Ls 4 (MQ below (zQc D cid kv N0 xs Ls ρ0 r0 hF) args s (nF - n0) (zE - z0) (zA N0)) ρ0 n0 z0 nF zE Qq (zCall d) zt831_0 := zc_so (si_aload_n F dX8_offer_0 rfl)
  (zc_so (si_iload_n F dX8_offer_1 rfl)
  (zc_so (si_cV F (IH 828 mm828) mp828 (by decide) rfl rfl (by decide) tb_827 mi828 ms828 mn828 mc828 dX8_offer_2)
  (zc_so (si_aload_n F dX8_offer_5 rfl)
  (zc_so (si_getI (k := 15) F rfl inT8 (by decide) (by decide) rfl rfl tb_719 dX8_offer_6)
  (zc_so (si_aload_n F dX8_offer_9 rfl)
  (zc_so (si_iload_n F dX8_offer_10 rfl)
  (zc_so (si_iconst F dX8_offer_11 rfl)
  (zc_so (si_cV F (IH 808 mm808) mp808 (by decide) rfl rfl (by decide) tb_819 mi808 ms808 mn808 mc808 dX8_offer_12)
  (zc_so (si_iadd F dX8_offer_15)
  (zc_so (si_istore_n F dX8_offer_16 rfl)
  (zc_so (si_aload_n F dX8_offer_17 rfl)
  (zc_so (si_getI (k := 15) F rfl inT8 (by decide) (by decide) rfl rfl tb_719 dX8_offer_18)
  (zc_so (si_bipush F dX8_offer_21 rfl)
  (zc_so (si_aload_n F dX8_offer_23 rfl)
  (zc_so (si_iload_n F dX8_offer_24 rfl)
  (zc_so (si_iconst F dX8_offer_25 rfl)
  (zc_so (si_cV F (IH 808 mm808) mp808 (by decide) rfl rfl (by decide) tb_819 mi808 ms808 mn808 mc808 dX8_offer_26)
  (zc_so (si_min F tb_871 tb_298 tb_5 tb_299 dX8_offer_29)
  (zc_so (si_isub F dX8_offer_32)
  (zc_so (si_istore_n F dX8_offer_33 rfl)
  (zc_so (si_aload_n F dX8_offer_34 rfl)
  (zc_so (si_iload_n F dX8_offer_35 rfl)
  (zc_so (si_iconst F dX8_offer_36 rfl)
  (zc_so (si_cV F (IH 808 mm808) mp808 (by decide) rfl rfl (by decide) tb_819 mi808 ms808 mn808 mc808 dX8_offer_37)
  (zc_so (so_swT F.1.1 F.1.2.1 dX8_offer_40 rfl rfl ⟨rfl, rfl, ⟨rfl, rfl, ⟨rfl, rfl, ⟨rfl, rfl, ⟨rfl, rfl, ⟨rfl, rfl, trivial⟩⟩⟩⟩⟩⟩)
  (zc_nil))))))))))))))))))))))))))
theorem sd831_1 (F : zFx p l R s m args meth c D cid kv N0 xs Ls RX8 cX8_offer 4 n0 z0 nF zE d) (IH : zAllM l D cid kv N0 xs Ls d) (hQ : ∀ v h, Qq v h → v = r0 ∧ h = hF) (hn : nF = zN hF) (hz : zE = zZ hF) (hlocks : meth.locks = false) (hr : meth.sig.returnType = (some .int)) : zSoL p l e R s m args below meth c D cid kv N0 xs Ls 4 (MQ below (zQc D cid kv N0 xs Ls ρ0 r0 hF) args s (nF - n0) (zE - z0) (zA N0)) ρ0 n0 z0 nF zE Qq (zCall d) zt831_1 := zc_so (si_iload_n F dX8_offer_80 rfl)
  (zc_so (si_rI F hQ hn hz hlocks hr (fun _ _ => rfl) dX8_offer_81)
  (zc_so (si_aload_n F dX8_offer_82 rfl)
  (zc_so (si_getI (k := 15) F rfl inT8 (by decide) (by decide) rfl rfl tb_719 dX8_offer_83)
  (zc_so (si_iconst F dX8_offer_86 rfl)
  (zc_so (si_idiv F dX8_offer_87)
  (zc_so (si_rI F hQ hn hz hlocks hr (fun _ _ => rfl) dX8_offer_88)
  (zc_so (si_iload_n F dX8_offer_89 rfl)
  (zc_so (si_rI F hQ hn hz hlocks hr (fun _ _ => rfl) dX8_offer_90)
  (zc_so (si_aload_n F dX8_offer_91 rfl)
  (zc_so (si_iload_n F dX8_offer_92 rfl)
  (zc_so (si_cV F (IH 830 mm830) mp830 (by decide) rfl rfl (by decide) tb_872 mi830 ms830 mn830 mc830 dX8_offer_93)
  (zc_so (si_ifeq F dX8_offer_96 rfl)
  (zc_so (si_iconst F dX8_offer_99 rfl)
  (zc_so (si_iload_n F dX8_offer_100 rfl)
  (zc_so (si_imul F dX8_offer_101)
  (zc_so (si_goto F dX8_offer_102 rfl)
  (zc_so (si_iload_n F dX8_offer_105 rfl)
  (zc_so (si_rI F hQ hn hz hlocks hr (fun _ _ => rfl) dX8_offer_106)
  (zc_so (si_aload_n F dX8_offer_107 rfl)
  (zc_so (si_getI (k := 15) F rfl inT8 (by decide) (by decide) rfl rfl tb_719 dX8_offer_108)
  (zc_so (si_iconst F dX8_offer_111 rfl)
  (zc_so (si_idiv F dX8_offer_112)
  (zc_so (si_aload_n F dX8_offer_113 rfl)
  (zc_so (si_getR (k := 0) F rfl inT8 (by decide) (by decide) rfl rfl tb_704 dX8_offer_114)
  (zc_so (si_bipush F dX8_offer_117 rfl)
  (zc_so (si_iaload F dX8_offer_119)
  (zc_so (si_bipush F dX8_offer_120 rfl)
  (zc_so (si_irem F dX8_offer_122)
  (zc_so (si_ifne F dX8_offer_123 rfl)
  (zc_so (si_iconst F dX8_offer_126 rfl)
  (zc_so (si_goto F dX8_offer_127 rfl)
  (zc_nil))))))))))))))))))))))))))))))))
theorem sd831_2 (F : zFx p l R s m args meth c D cid kv N0 xs Ls RX8 cX8_offer 4 n0 z0 nF zE d) (IH : zAllM l D cid kv N0 xs Ls d) (hQ : ∀ v h, Qq v h → v = r0 ∧ h = hF) (hn : nF = zN hF) (hz : zE = zZ hF) (hlocks : meth.locks = false) (hr : meth.sig.returnType = (some .int)) : zSoL p l e R s m args below meth c D cid kv N0 xs Ls 4 (MQ below (zQc D cid kv N0 xs Ls ρ0 r0 hF) args s (nF - n0) (zE - z0) (zA N0)) ρ0 n0 z0 nF zE Qq (zCall d) zt831_2 := zc_so (si_iconst F dX8_offer_130 rfl)
  (zc_so (si_iadd F dX8_offer_131)
  (zc_so (si_rI F hQ hn hz hlocks hr (fun _ _ => rfl) dX8_offer_132)
  (zc_so (si_iload_n F dX8_offer_133 rfl)
  (zc_so (si_aload_n F dX8_offer_134 rfl)
  (zc_so (si_iload_n F dX8_offer_135 rfl)
  (zc_so (si_bipush F dX8_offer_136 rfl)
  (zc_so (si_aload_n F dX8_offer_138 rfl)
  (zc_so (si_getR (k := 0) F rfl inT8 (by decide) (by decide) rfl rfl tb_704 dX8_offer_139)
  (zc_so (si_bipush F dX8_offer_142 rfl)
  (zc_so (si_iaload F dX8_offer_144)
  (zc_so (si_iconst F dX8_offer_145 rfl)
  (zc_so (si_irem F dX8_offer_146)
  (zc_so (si_iadd F dX8_offer_147)
  (zc_so (si_cV F (IH 808 mm808) mp808 (by decide) rfl rfl (by decide) tb_819 mi808 ms808 mn808 mc808 dX8_offer_148)
  (zc_so (si_iadd F dX8_offer_151)
  (zc_so (si_rI F hQ hn hz hlocks hr (fun _ _ => rfl) dX8_offer_152)
  (zc_so (si_aload_n F dX8_offer_153 rfl)
  (zc_so (si_getI (k := 15) F rfl inT8 (by decide) (by decide) rfl rfl tb_719 dX8_offer_154)
  (zc_so (si_rI F hQ hn hz hlocks hr (fun _ _ => rfl) dX8_offer_157)
  (zc_nil))))))))))))))))))))
theorem sd831 (F : zFx p l R s m args meth c D cid kv N0 xs Ls RX8 cX8_offer 4 n0 z0 nF zE d) (IH : zAllM l D cid kv N0 xs Ls d) (hQ : ∀ v h, Qq v h → v = r0 ∧ h = hF) (hn : nF = zN hF) (hz : zE = zZ hF) (hlocks : meth.locks = false) (hr : meth.sig.returnType = (some .int)) (pc : Nat) : zSo p l e R s m args below meth c D cid kv N0 xs Ls 4 (MQ below (zQc D cid kv N0 xs Ls ρ0 r0 hF) args s (nF - n0) (zE - z0) (zA N0)) ρ0 n0 z0 nF zE Qq (zCall d) pc (zTab 831 pc) := zc_tab [zt831_0, zt831_1, zt831_2] (zc_cons (sd831_0 F IH hQ hn hz hlocks hr) (zc_cons (sd831_1 F IH hQ hn hz hlocks hr) (zc_cons (sd831_2 F IH hQ hn hz hlocks hr) zc_end)))
theorem dX8_goes_0 : decode cX8_goes 0 = .ok (.aload_n 0, 1) := by decide +kernel
theorem dX8_goes_1 : decode cX8_goes 1 = .ok (.iload_n 1, 1) := by decide +kernel
theorem dX8_goes_2 : decode cX8_goes 2 = .ok (.iconst 3, 1) := by decide +kernel
theorem dX8_goes_3 : decode cX8_goes 3 = .ok (.invokevirtual 88, 3) := by decide +kernel
theorem dX8_goes_6 : decode cX8_goes 6 = .ok (.aload_n 0, 1) := by decide +kernel
theorem dX8_goes_7 : decode cX8_goes 7 = .ok (.iload_n 1, 1) := by decide +kernel
theorem dX8_goes_8 : decode cX8_goes 8 = .ok (.iconst 4, 1) := by decide +kernel
theorem dX8_goes_9 : decode cX8_goes 9 = .ok (.invokevirtual 88, 3) := by decide +kernel
theorem dX8_goes_12 : decode cX8_goes 12 = .ok (.iconst 1, 1) := by decide +kernel
theorem dX8_goes_13 : decode cX8_goes 13 = .ok (.if_icmp .ne 7, 3) := by decide +kernel
theorem dX8_goes_16 : decode cX8_goes 16 = .ok (.iconst (-1), 1) := by decide +kernel
theorem dX8_goes_17 : decode cX8_goes 17 = .ok (.goto 4, 3) := by decide +kernel
theorem dX8_goes_20 : decode cX8_goes 20 = .ok (.iconst 1, 1) := by decide +kernel
theorem dX8_goes_21 : decode cX8_goes 21 = .ok (.iadd, 1) := by decide +kernel
theorem dX8_goes_22 : decode cX8_goes 22 = .ok (.istore_n 2, 1) := by decide +kernel
theorem dX8_goes_23 : decode cX8_goes 23 = .ok (.aload_n 0, 1) := by decide +kernel
theorem dX8_goes_24 : decode cX8_goes 24 = .ok (.iload_n 1, 1) := by decide +kernel
theorem dX8_goes_25 : decode cX8_goes 25 = .ok (.iconst 3, 1) := by decide +kernel
theorem dX8_goes_26 : decode cX8_goes 26 = .ok (.iload_n 2, 1) := by decide +kernel
theorem dX8_goes_27 : decode cX8_goes 27 = .ok (.invokevirtual 103, 3) := by decide +kernel
theorem dX8_goes_30 : decode cX8_goes 30 = .ok (.pop, 1) := by decide +kernel
theorem dX8_goes_31 : decode cX8_goes 31 = .ok (.iload_n 2, 1) := by decide +kernel
theorem dX8_goes_32 : decode cX8_goes 32 = .ok (.ifCond .ne 11, 3) := by decide +kernel
theorem dX8_goes_35 : decode cX8_goes 35 = .ok (.aload_n 0, 1) := by decide +kernel
theorem dX8_goes_36 : decode cX8_goes 36 = .ok (.iload_n 1, 1) := by decide +kernel
theorem dX8_goes_37 : decode cX8_goes 37 = .ok (.iconst 4, 1) := by decide +kernel
theorem dX8_goes_38 : decode cX8_goes 38 = .ok (.iconst 0, 1) := by decide +kernel
theorem dX8_goes_39 : decode cX8_goes 39 = .ok (.invokevirtual 103, 3) := by decide +kernel
theorem dX8_goes_42 : decode cX8_goes 42 = .ok (.pop, 1) := by decide +kernel
theorem dX8_goes_43 : decode cX8_goes 43 = .ok (.iload_n 2, 1) := by decide +kernel
theorem dX8_goes_44 : decode cX8_goes 44 = .ok (.iconst 5, 1) := by decide +kernel
theorem dX8_goes_45 : decode cX8_goes 45 = .ok (.if_icmp .ne 97, 3) := by decide +kernel
theorem dX8_goes_48 : decode cX8_goes 48 = .ok (.aload_n 0, 1) := by decide +kernel
theorem dX8_goes_49 : decode cX8_goes 49 = .ok (.iload_n 1, 1) := by decide +kernel
theorem dX8_goes_50 : decode cX8_goes 50 = .ok (.iconst 4, 1) := by decide +kernel
theorem dX8_goes_51 : decode cX8_goes 51 = .ok (.invokevirtual 88, 3) := by decide +kernel
theorem dX8_goes_54 : decode cX8_goes 54 = .ok (.ifCond .ne 88, 3) := by decide +kernel
theorem dX8_goes_57 : decode cX8_goes 57 = .ok (.aload_n 0, 1) := by decide +kernel
theorem dX8_goes_58 : decode cX8_goes 58 = .ok (.iload_n 1, 1) := by decide +kernel
theorem dX8_goes_59 : decode cX8_goes 59 = .ok (.invokevirtual 96, 3) := by decide +kernel
theorem dX8_goes_62 : decode cX8_goes 62 = .ok (.istore_n 3, 1) := by decide +kernel
theorem dX8_goes_63 : decode cX8_goes 63 = .ok (.iload_n 3, 1) := by decide +kernel
theorem dX8_goes_64 : decode cX8_goes 64 = .ok (.ifCond .le 78, 3) := by decide +kernel
theorem dX8_goes_67 : decode cX8_goes 67 = .ok (.iload_n 3, 1) := by decide +kernel
theorem dX8_goes_68 : decode cX8_goes 68 = .ok (.aload_n 0, 1) := by decide +kernel
theorem dX8_goes_69 : decode cX8_goes 69 = .ok (.getfield 15, 3) := by decide +kernel
theorem dX8_goes_72 : decode cX8_goes 72 = .ok (.bipush 61, 2) := by decide +kernel
theorem dX8_goes_74 : decode cX8_goes 74 = .ok (.iaload, 1) := by decide +kernel
theorem dX8_goes_75 : decode cX8_goes 75 = .ok (.if_icmp .gt 67, 3) := by decide +kernel
theorem dX8_goes_78 : decode cX8_goes 78 = .ok (.iload_n 3, 1) := by decide +kernel
theorem dX8_goes_79 : decode cX8_goes 79 = .ok (.aload_n 0, 1) := by decide +kernel
theorem dX8_goes_80 : decode cX8_goes 80 = .ok (.iload_n 1, 1) := by decide +kernel
theorem dX8_goes_81 : decode cX8_goes 81 = .ok (.iconst 2, 1) := by decide +kernel
theorem dX8_goes_82 : decode cX8_goes 82 = .ok (.invokevirtual 88, 3) := by decide +kernel
theorem dX8_goes_85 : decode cX8_goes 85 = .ok (.if_icmp .lt 57, 3) := by decide +kernel
theorem dX8_goes_88 : decode cX8_goes 88 = .ok (.aload_n 0, 1) := by decide +kernel
theorem dX8_goes_89 : decode cX8_goes 89 = .ok (.getfield 15, 3) := by decide +kernel
theorem dX8_goes_92 : decode cX8_goes 92 = .ok (.bipush 61, 2) := by decide +kernel
theorem dX8_goes_94 : decode cX8_goes 94 = .ok (.dup2, 1) := by decide +kernel
theorem dX8_goes_95 : decode cX8_goes 95 = .ok (.iaload, 1) := by decide +kernel
theorem dX8_goes_96 : decode cX8_goes 96 = .ok (.iload_n 3, 1) := by decide +kernel
theorem dX8_goes_97 : decode cX8_goes 97 = .ok (.isub, 1) := by decide +kernel
theorem dX8_goes_98 : decode cX8_goes 98 = .ok (.iastore, 1) := by decide +kernel
theorem dX8_goes_99 : decode cX8_goes 99 = .ok (.aload_n 0, 1) := by decide +kernel
theorem dX8_goes_100 : decode cX8_goes 100 = .ok (.iload_n 1, 1) := by decide +kernel
theorem dX8_goes_101 : decode cX8_goes 101 = .ok (.iconst 4, 1) := by decide +kernel
theorem dX8_goes_102 : decode cX8_goes 102 = .ok (.iconst 1, 1) := by decide +kernel
theorem dX8_goes_103 : decode cX8_goes 103 = .ok (.invokevirtual 103, 3) := by decide +kernel
theorem dX8_goes_106 : decode cX8_goes 106 = .ok (.pop, 1) := by decide +kernel
theorem dX8_goes_107 : decode cX8_goes 107 = .ok (.aload_n 0, 1) := by decide +kernel
theorem dX8_goes_108 : decode cX8_goes 108 = .ok (.iload_n 1, 1) := by decide +kernel
theorem dX8_goes_109 : decode cX8_goes 109 = .ok (.iconst 5, 1) := by decide +kernel
theorem dX8_goes_110 : decode cX8_goes 110 = .ok (.aload_n 0, 1) := by decide +kernel
theorem dX8_goes_111 : decode cX8_goes 111 = .ok (.iload_n 1, 1) := by decide +kernel
theorem dX8_goes_112 : decode cX8_goes 112 = .ok (.iconst 5, 1) := by decide +kernel
theorem dX8_goes_113 : decode cX8_goes 113 = .ok (.invokevirtual 88, 3) := by decide +kernel
theorem dX8_goes_116 : decode cX8_goes 116 = .ok (.iconst 1, 1) := by decide +kernel
theorem dX8_goes_117 : decode cX8_goes 117 = .ok (.iadd, 1) := by decide +kernel
theorem dX8_goes_118 : decode cX8_goes 118 = .ok (.invokevirtual 103, 3) := by decide +kernel
theorem dX8_goes_121 : decode cX8_goes 121 = .ok (.pop, 1) := by decide +kernel
theorem dX8_goes_122 : decode cX8_goes 122 = .ok (.aload_n 0, 1) := by decide +kernel
theorem dX8_goes_123 : decode cX8_goes 123 = .ok (.iload_n 1, 1) := by decide +kernel
theorem dX8_goes_124 : decode cX8_goes 124 = .ok (.iconst 2, 1) := by decide +kernel
theorem dX8_goes_125 : decode cX8_goes 125 = .ok (.bipush 99, 2) := by decide +kernel
theorem dX8_goes_127 : decode cX8_goes 127 = .ok (.aload_n 0, 1) := by decide +kernel
theorem dX8_goes_128 : decode cX8_goes 128 = .ok (.iload_n 1, 1) := by decide +kernel
theorem dX8_goes_129 : decode cX8_goes 129 = .ok (.iconst 2, 1) := by decide +kernel
theorem dX8_goes_130 : decode cX8_goes 130 = .ok (.invokevirtual 88, 3) := by decide +kernel
theorem dX8_goes_133 : decode cX8_goes 133 = .ok (.iconst 3, 1) := by decide +kernel
theorem dX8_goes_134 : decode cX8_goes 134 = .ok (.iadd, 1) := by decide +kernel
theorem dX8_goes_135 : decode cX8_goes 135 = .ok (.invokestatic 171, 3) := by decide +kernel
theorem dX8_goes_138 : decode cX8_goes 138 = .ok (.invokevirtual 103, 3) := by decide +kernel
theorem dX8_goes_141 : decode cX8_goes 141 = .ok (.pop, 1) := by decide +kernel
theorem dX8_goes_142 : decode cX8_goes 142 = .ok (.return_, 1) := by decide +kernel
theorem sd832_0 (F : zFx p l R s m args meth c D cid kv N0 xs Ls RX8 cX8_goes 4 n0 z0 nF zE d) (IH : zAllM l D cid kv N0 xs Ls d) (hQ : ∀ v h, Qq v h → v = r0 ∧ h = hF) (hn : nF = zN hF) (hz : zE = zZ hF) (hlocks : meth.locks = false) (hr : meth.sig.returnType = none) : zSoL p l e R s m args below meth c D cid kv N0 xs Ls 4 (MQ below (zQc D cid kv N0 xs Ls ρ0 r0 hF) args s (nF - n0) (zE - z0) (zA N0)) ρ0 n0 z0 nF zE Qq (zCall d) zt832_0 := zc_so (si_aload_n F dX8_goes_0 rfl)
  (zc_so (si_iload_n F dX8_goes_1 rfl)
  (zc_so (si_iconst F dX8_goes_2 rfl)
  (zc_so (si_cV F (IH 808 mm808) mp808 (by decide) rfl rfl (by decide) tb_819 mi808 ms808 mn808 mc808 dX8_goes_3)
  (zc_so (si_aload_n F dX8_goes_6 rfl)
  (zc_so (si_iload_n F dX8_goes_7 rfl)
  (zc_so (si_iconst F dX8_goes_8 rfl)
  (zc_so (si_cV F (IH 808 mm808) mp808 (by decide) rfl rfl (by decide) tb_819 mi808 ms808 mn808 mc808 dX8_goes_9)
  (zc_so (si_iconst F dX8_goes_12 rfl)
  (zc_so (si_icne F dX8_goes_13 rfl)
  (zc_so (si_iconst F dX8_goes_16 rfl)
  (zc_so (si_goto F dX8_goes_17 rfl)
  (zc_so (si_iconst F dX8_goes_20 rfl)
  (zc_so (si_iadd F dX8_goes_21)
  (zc_so (si_istore_n F dX8_goes_22 rfl)
  (zc_so (si_aload_n F dX8_goes_23 rfl)
  (zc_so (si_iload_n F dX8_goes_24 rfl)
  (zc_so (si_iconst F dX8_goes_25 rfl)
  (zc_so (si_iload_n F dX8_goes_26 rfl)
  (zc_so (si_cV F (IH 809 mm809) mp809 (by decide) rfl rfl (by decide) tb_888 mi809 ms809 mn809 mc809 dX8_goes_27)
  (zc_so (si_pop F dX8_goes_30)
  (zc_so (si_iload_n F dX8_goes_31 rfl)
  (zc_so (si_ifne F dX8_goes_32 rfl)
  (zc_so (si_aload_n F dX8_goes_35 rfl)
  (zc_so (si_iload_n F dX8_goes_36 rfl)
  (zc_so (si_iconst F dX8_goes_37 rfl)
  (zc_so (si_iconst F dX8_goes_38 rfl)
  (zc_so (si_cV F (IH 809 mm809) mp809 (by decide) rfl rfl (by decide) tb_888 mi809 ms809 mn809 mc809 dX8_goes_39)
  (zc_so (si_pop F dX8_goes_42)
  (zc_so (si_iload_n F dX8_goes_43 rfl)
  (zc_so (si_iconst F dX8_goes_44 rfl)
  (zc_so (si_icne F dX8_goes_45 rfl)
  (zc_so (si_aload_n F dX8_goes_48 rfl)
  (zc_so (si_iload_n F dX8_goes_49 rfl)
  (zc_so (si_iconst F dX8_goes_50 rfl)
  (zc_so (si_cV F (IH 808 mm808) mp808 (by decide) rfl rfl (by decide) tb_819 mi808 ms808 mn808 mc808 dX8_goes_51)
  (zc_so (si_ifne F dX8_goes_54 rfl)
  (zc_so (si_aload_n F dX8_goes_57 rfl)
  (zc_so (si_iload_n F dX8_goes_58 rfl)
  (zc_so (si_cV F (IH 831 mm831) mp831 (by decide) rfl rfl (by decide) tb_823 mi831 ms831 mn831 mc831 dX8_goes_59)
  (zc_so (si_istore_n F dX8_goes_62 rfl)
  (zc_so (si_iload_n F dX8_goes_63 rfl)
  (zc_nil))))))))))))))))))))))))))))))))))))))))))
theorem sd832_1 (F : zFx p l R s m args meth c D cid kv N0 xs Ls RX8 cX8_goes 4 n0 z0 nF zE d) (IH : zAllM l D cid kv N0 xs Ls d) (hQ : ∀ v h, Qq v h → v = r0 ∧ h = hF) (hn : nF = zN hF) (hz : zE = zZ hF) (hlocks : meth.locks = false) (hr : meth.sig.returnType = none) : zSoL p l e R s m args below meth c D cid kv N0 xs Ls 4 (MQ below (zQc D cid kv N0 xs Ls ρ0 r0 hF) args s (nF - n0) (zE - z0) (zA N0)) ρ0 n0 z0 nF zE Qq (zCall d) zt832_1 := zc_so (si_ifle F dX8_goes_64 rfl)
  (zc_so (si_iload_n F dX8_goes_67 rfl)
  (zc_so (si_aload_n F dX8_goes_68 rfl)
  (zc_so (si_getR (k := 0) F rfl inT8 (by decide) (by decide) rfl rfl tb_704 dX8_goes_69)
  (zc_so (si_bipush F dX8_goes_72 rfl)
  (zc_so (si_iaload F dX8_goes_74)
  (zc_so (si_icgt F dX8_goes_75 rfl)
  (zc_so (si_iload_n F dX8_goes_78 rfl)
  (zc_so (si_aload_n F dX8_goes_79 rfl)
  (zc_so (si_iload_n F dX8_goes_80 rfl)
  (zc_so (si_iconst F dX8_goes_81 rfl)
  (zc_so (si_cV F (IH 808 mm808) mp808 (by decide) rfl rfl (by decide) tb_819 mi808 ms808 mn808 mc808 dX8_goes_82)
  (zc_so (si_iclt F dX8_goes_85 rfl)
  (zc_so (si_aload_n F dX8_goes_88 rfl)
  (zc_so (si_getR (k := 0) F rfl inT8 (by decide) (by decide) rfl rfl tb_704 dX8_goes_89)
  (zc_so (si_bipush F dX8_goes_92 rfl)
  (zc_so (si_dup2 F dX8_goes_94)
  (zc_so (si_iaload F dX8_goes_95)
  (zc_so (si_iload_n F dX8_goes_96 rfl)
  (zc_so (si_isub F dX8_goes_97)
  (zc_so (si_iastore F dX8_goes_98)
  (zc_so (si_aload_n F dX8_goes_99 rfl)
  (zc_so (si_iload_n F dX8_goes_100 rfl)
  (zc_so (si_iconst F dX8_goes_101 rfl)
  (zc_so (si_iconst F dX8_goes_102 rfl)
  (zc_so (si_cV F (IH 809 mm809) mp809 (by decide) rfl rfl (by decide) tb_888 mi809 ms809 mn809 mc809 dX8_goes_103)
  (zc_so (si_pop F dX8_goes_106)
  (zc_so (si_aload_n F dX8_goes_107 rfl)
  (zc_so (si_iload_n F dX8_goes_108 rfl)
  (zc_so (si_iconst F dX8_goes_109 rfl)
  (zc_so (si_aload_n F dX8_goes_110 rfl)
  (zc_so (si_iload_n F dX8_goes_111 rfl)
  (zc_so (si_iconst F dX8_goes_112 rfl)
  (zc_so (si_cV F (IH 808 mm808) mp808 (by decide) rfl rfl (by decide) tb_819 mi808 ms808 mn808 mc808 dX8_goes_113)
  (zc_so (si_iconst F dX8_goes_116 rfl)
  (zc_so (si_iadd F dX8_goes_117)
  (zc_so (si_cV F (IH 809 mm809) mp809 (by decide) rfl rfl (by decide) tb_888 mi809 ms809 mn809 mc809 dX8_goes_118)
  (zc_so (si_pop F dX8_goes_121)
  (zc_so (si_aload_n F dX8_goes_122 rfl)
  (zc_so (si_iload_n F dX8_goes_123 rfl)
  (zc_so (si_iconst F dX8_goes_124 rfl)
  (zc_so (si_bipush F dX8_goes_125 rfl)
  (zc_so (si_aload_n F dX8_goes_127 rfl)
  (zc_nil)))))))))))))))))))))))))))))))))))))))))))
theorem sd832_2 (F : zFx p l R s m args meth c D cid kv N0 xs Ls RX8 cX8_goes 4 n0 z0 nF zE d) (IH : zAllM l D cid kv N0 xs Ls d) (hQ : ∀ v h, Qq v h → v = r0 ∧ h = hF) (hn : nF = zN hF) (hz : zE = zZ hF) (hlocks : meth.locks = false) (hr : meth.sig.returnType = none) : zSoL p l e R s m args below meth c D cid kv N0 xs Ls 4 (MQ below (zQc D cid kv N0 xs Ls ρ0 r0 hF) args s (nF - n0) (zE - z0) (zA N0)) ρ0 n0 z0 nF zE Qq (zCall d) zt832_2 := zc_so (si_iload_n F dX8_goes_128 rfl)
  (zc_so (si_iconst F dX8_goes_129 rfl)
  (zc_so (si_cV F (IH 808 mm808) mp808 (by decide) rfl rfl (by decide) tb_819 mi808 ms808 mn808 mc808 dX8_goes_130)
  (zc_so (si_iconst F dX8_goes_133 rfl)
  (zc_so (si_iadd F dX8_goes_134)
  (zc_so (si_min F tb_871 tb_298 tb_5 tb_299 dX8_goes_135)
  (zc_so (si_cV F (IH 809 mm809) mp809 (by decide) rfl rfl (by decide) tb_888 mi809 ms809 mn809 mc809 dX8_goes_138)
  (zc_so (si_pop F dX8_goes_141)
  (zc_so (si_rV F hQ hn hz hlocks hr dX8_goes_142)
  (zc_nil)))))))))
theorem sd832 (F : zFx p l R s m args meth c D cid kv N0 xs Ls RX8 cX8_goes 4 n0 z0 nF zE d) (IH : zAllM l D cid kv N0 xs Ls d) (hQ : ∀ v h, Qq v h → v = r0 ∧ h = hF) (hn : nF = zN hF) (hz : zE = zZ hF) (hlocks : meth.locks = false) (hr : meth.sig.returnType = none) (pc : Nat) : zSo p l e R s m args below meth c D cid kv N0 xs Ls 4 (MQ below (zQc D cid kv N0 xs Ls ρ0 r0 hF) args s (nF - n0) (zE - z0) (zA N0)) ρ0 n0 z0 nF zE Qq (zCall d) pc (zTab 832 pc) := zc_tab [zt832_0, zt832_1, zt832_2] (zc_cons (sd832_0 F IH hQ hn hz hlocks hr) (zc_cons (sd832_1 F IH hQ hn hz hlocks hr) (zc_cons (sd832_2 F IH hQ hn hz hlocks hr) zc_end)))
theorem dX8_day_0 : decode cX8_day 0 = .ok (.iconst 0, 1) := by decide +kernel
theorem dX8_day_1 : decode cX8_day 1 = .ok (.istore_n 1, 1) := by decide +kernel
theorem dX8_day_2 : decode cX8_day 2 = .ok (.iload_n 1, 1) := by decide +kernel
theorem dX8_day_3 : decode cX8_day 3 = .ok (.aload_n 0, 1) := by decide +kernel
theorem dX8_day_4 : decode cX8_day 4 = .ok (.getfield 15, 3) := by decide +kernel
theorem dX8_day_7 : decode cX8_day 7 = .ok (.bipush 60, 2) := by decide +kernel
theorem dX8_day_9 : decode cX8_day 9 = .ok (.iaload, 1) := by decide +kernel
theorem dX8_day_10 : decode cX8_day 10 = .ok (.if_icmp .ge 25, 3) := by decide +kernel
theorem dX8_day_13 : decode cX8_day 13 = .ok (.aload_n 0, 1) := by decide +kernel
theorem dX8_day_14 : decode cX8_day 14 = .ok (.iload_n 1, 1) := by decide +kernel
theorem dX8_day_15 : decode cX8_day 15 = .ok (.iconst 3, 1) := by decide +kernel
theorem dX8_day_16 : decode cX8_day 16 = .ok (.invokevirtual 88, 3) := by decide +kernel
theorem dX8_day_19 : decode cX8_day 19 = .ok (.bipush 10, 2) := by decide +kernel
theorem dX8_day_21 : decode cX8_day 21 = .ok (.if_icmp .eq 8, 3) := by decide +kernel
theorem dX8_day_24 : decode cX8_day 24 = .ok (.aload_n 0, 1) := by decide +kernel
theorem dX8_day_25 : decode cX8_day 25 = .ok (.iload_n 1, 1) := by decide +kernel
theorem dX8_day_26 : decode cX8_day 26 = .ok (.invokevirtual 179, 3) := by decide +kernel
theorem dX8_day_29 : decode cX8_day 29 = .ok (.iinc 1 1, 3) := by decide +kernel
theorem dX8_day_32 : decode cX8_day 32 = .ok (.goto (-30), 3) := by decide +kernel
theorem dX8_day_35 : decode cX8_day 35 = .ok (.aload_n 0, 1) := by decide +kernel
theorem dX8_day_36 : decode cX8_day 36 = .ok (.getfield 15, 3) := by decide +kernel
theorem dX8_day_39 : decode cX8_day 39 = .ok (.bipush 62, 2) := by decide +kernel
theorem dX8_day_41 : decode cX8_day 41 = .ok (.dup2, 1) := by decide +kernel
theorem dX8_day_42 : decode cX8_day 42 = .ok (.iaload, 1) := by decide +kernel
theorem dX8_day_43 : decode cX8_day 43 = .ok (.iconst 1, 1) := by decide +kernel
theorem dX8_day_44 : decode cX8_day 44 = .ok (.iadd, 1) := by decide +kernel
theorem dX8_day_45 : decode cX8_day 45 = .ok (.iastore, 1) := by decide +kernel
theorem dX8_day_46 : decode cX8_day 46 = .ok (.return_, 1) := by decide +kernel
theorem sd833_0 (F : zFx p l R s m args meth c D cid kv N0 xs Ls RX8 cX8_day 2 n0 z0 nF zE d) (IH : zAllM l D cid kv N0 xs Ls d) (hQ : ∀ v h, Qq v h → v = r0 ∧ h = hF) (hn : nF = zN hF) (hz : zE = zZ hF) (hlocks : meth.locks = false) (hr : meth.sig.returnType = none) : zSoL p l e R s m args below meth c D cid kv N0 xs Ls 2 (MQ below (zQc D cid kv N0 xs Ls ρ0 r0 hF) args s (nF - n0) (zE - z0) (zA N0)) ρ0 n0 z0 nF zE Qq (zCall d) zt833_0 := zc_so (si_iconst F dX8_day_0 rfl)
  (zc_so (si_istore_n F dX8_day_1 rfl)
  (zc_so (si_iload_n F dX8_day_2 rfl)
  (zc_so (si_aload_n F dX8_day_3 rfl)
  (zc_so (si_getR (k := 0) F rfl inT8 (by decide) (by decide) rfl rfl tb_704 dX8_day_4)
  (zc_so (si_bipush F dX8_day_7 rfl)
  (zc_so (si_iaload F dX8_day_9)
  (zc_so (si_icge F dX8_day_10 rfl)
  (zc_so (si_aload_n F dX8_day_13 rfl)
  (zc_so (si_iload_n F dX8_day_14 rfl)
  (zc_so (si_iconst F dX8_day_15 rfl)
  (zc_so (si_cV F (IH 808 mm808) mp808 (by decide) rfl rfl (by decide) tb_819 mi808 ms808 mn808 mc808 dX8_day_16)
  (zc_so (si_bipush F dX8_day_19 rfl)
  (zc_so (si_iceq F dX8_day_21 rfl)
  (zc_so (si_aload_n F dX8_day_24 rfl)
  (zc_so (si_iload_n F dX8_day_25 rfl)
  (zc_so (si_cV F (IH 832 mm832) mp832 (by decide) rfl rfl (by decide) tb_884 mi832 ms832 mn832 mc832 dX8_day_26)
  (zc_so (si_iinc F dX8_day_29 rfl)
  (zc_so (si_goto F dX8_day_32 rfl)
  (zc_so (si_aload_n F dX8_day_35 rfl)
  (zc_so (si_getR (k := 0) F rfl inT8 (by decide) (by decide) rfl rfl tb_704 dX8_day_36)
  (zc_so (si_bipush F dX8_day_39 rfl)
  (zc_so (si_dup2 F dX8_day_41)
  (zc_so (si_iaload F dX8_day_42)
  (zc_so (si_iconst F dX8_day_43 rfl)
  (zc_so (si_iadd F dX8_day_44)
  (zc_so (si_iastore F dX8_day_45)
  (zc_so (si_rV F hQ hn hz hlocks hr dX8_day_46)
  (zc_nil))))))))))))))))))))))))))))
theorem sd833 (F : zFx p l R s m args meth c D cid kv N0 xs Ls RX8 cX8_day 2 n0 z0 nF zE d) (IH : zAllM l D cid kv N0 xs Ls d) (hQ : ∀ v h, Qq v h → v = r0 ∧ h = hF) (hn : nF = zN hF) (hz : zE = zZ hF) (hlocks : meth.locks = false) (hr : meth.sig.returnType = none) (pc : Nat) : zSo p l e R s m args below meth c D cid kv N0 xs Ls 2 (MQ below (zQc D cid kv N0 xs Ls ρ0 r0 hF) args s (nF - n0) (zE - z0) (zA N0)) ρ0 n0 z0 nF zE Qq (zCall d) pc (zTab 833 pc) := zc_tab [zt833_0] (zc_cons (sd833_0 F IH hQ hn hz hlocks hr) zc_end)
theorem dX8_days_0 : decode cX8_days 0 = .ok (.iconst 0, 1) := by decide +kernel
theorem dX8_days_1 : decode cX8_days 1 = .ok (.istore_n 2, 1) := by decide +kernel
theorem dX8_days_2 : decode cX8_days 2 = .ok (.iload_n 2, 1) := by decide +kernel
theorem dX8_days_3 : decode cX8_days 3 = .ok (.iload_n 1, 1) := by decide +kernel
theorem dX8_days_4 : decode cX8_days 4 = .ok (.if_icmp .ge 13, 3) := by decide +kernel
theorem dX8_days_7 : decode cX8_days 7 = .ok (.aload_n 0, 1) := by decide +kernel
theorem dX8_days_8 : decode cX8_days 8 = .ok (.invokevirtual 182, 3) := by decide +kernel
theorem dX8_days_11 : decode cX8_days 11 = .ok (.iinc 2 1, 3) := by decide +kernel
theorem dX8_days_14 : decode cX8_days 14 = .ok (.goto (-12), 3) := by decide +kernel
theorem dX8_days_17 : decode cX8_days 17 = .ok (.return_, 1) := by decide +kernel
theorem sd834_0 (F : zFx p l R s m args meth c D cid kv N0 xs Ls RX8 cX8_days 3 n0 z0 nF zE d) (IH : zAllM l D cid kv N0 xs Ls d) (hQ : ∀ v h, Qq v h → v = r0 ∧ h = hF) (hn : nF = zN hF) (hz : zE = zZ hF) (hlocks : meth.locks = false) (hr : meth.sig.returnType = none) : zSoL p l e R s m args below meth c D cid kv N0 xs Ls 3 (MQ below (zQc D cid kv N0 xs Ls ρ0 r0 hF) args s (nF - n0) (zE - z0) (zA N0)) ρ0 n0 z0 nF zE Qq (zCall d) zt834_0 := zc_so (si_iconst F dX8_days_0 rfl)
  (zc_so (si_istore_n F dX8_days_1 rfl)
  (zc_so (si_iload_n F dX8_days_2 rfl)
  (zc_so (si_iload_n F dX8_days_3 rfl)
  (zc_so (si_icge F dX8_days_4 rfl)
  (zc_so (si_aload_n F dX8_days_7 rfl)
  (zc_so (si_cV F (IH 833 mm833) mp833 (by decide) rfl rfl (by decide) tb_880 mi833 ms833 mn833 mc833 dX8_days_8)
  (zc_so (si_iinc F dX8_days_11 rfl)
  (zc_so (si_goto F dX8_days_14 rfl)
  (zc_so (si_rV F hQ hn hz hlocks hr dX8_days_17)
  (zc_nil))))))))))
theorem sd834 (F : zFx p l R s m args meth c D cid kv N0 xs Ls RX8 cX8_days 3 n0 z0 nF zE d) (IH : zAllM l D cid kv N0 xs Ls d) (hQ : ∀ v h, Qq v h → v = r0 ∧ h = hF) (hn : nF = zN hF) (hz : zE = zZ hF) (hlocks : meth.locks = false) (hr : meth.sig.returnType = none) (pc : Nat) : zSo p l e R s m args below meth c D cid kv N0 xs Ls 3 (MQ below (zQc D cid kv N0 xs Ls ρ0 r0 hF) args s (nF - n0) (zE - z0) (zA N0)) ρ0 n0 z0 nF zE Qq (zCall d) pc (zTab 834 pc) := zc_tab [zt834_0] (zc_cons (sd834_0 F IH hQ hn hz hlocks hr) zc_end)
theorem dX8_standing_0 : decode cX8_standing 0 = .ok (.iconst 0, 1) := by decide +kernel
theorem dX8_standing_1 : decode cX8_standing 1 = .ok (.istore_n 2, 1) := by decide +kernel
theorem dX8_standing_2 : decode cX8_standing 2 = .ok (.iconst 0, 1) := by decide +kernel
theorem dX8_standing_3 : decode cX8_standing 3 = .ok (.istore_n 3, 1) := by decide +kernel
theorem dX8_standing_4 : decode cX8_standing 4 = .ok (.iload_n 3, 1) := by decide +kernel
theorem dX8_standing_5 : decode cX8_standing 5 = .ok (.aload_n 0, 1) := by decide +kernel
theorem dX8_standing_6 : decode cX8_standing 6 = .ok (.getfield 15, 3) := by decide +kernel
theorem dX8_standing_9 : decode cX8_standing 9 = .ok (.bipush 60, 2) := by decide +kernel
theorem dX8_standing_11 : decode cX8_standing 11 = .ok (.iaload, 1) := by decide +kernel
theorem dX8_standing_12 : decode cX8_standing 12 = .ok (.if_icmp .ge 29, 3) := by decide +kernel
theorem dX8_standing_15 : decode cX8_standing 15 = .ok (.iload_n 2, 1) := by decide +kernel
theorem dX8_standing_16 : decode cX8_standing 16 = .ok (.aload_n 0, 1) := by decide +kernel
theorem dX8_standing_17 : decode cX8_standing 17 = .ok (.iload_n 3, 1) := by decide +kernel
theorem dX8_standing_18 : decode cX8_standing 18 = .ok (.iconst 3, 1) := by decide +kernel
theorem dX8_standing_19 : decode cX8_standing 19 = .ok (.invokevirtual 88, 3) := by decide +kernel
theorem dX8_standing_22 : decode cX8_standing 22 = .ok (.iload_n 1, 1) := by decide +kernel
theorem dX8_standing_23 : decode cX8_standing 23 = .ok (.if_icmp .ne 9, 3) := by decide +kernel
theorem dX8_standing_26 : decode cX8_standing 26 = .ok (.iconst 1, 1) := by decide +kernel
theorem dX8_standing_27 : decode cX8_standing 27 = .ok (.iload_n 3, 1) := by decide +kernel
theorem dX8_standing_28 : decode cX8_standing 28 = .ok (.ishl, 1) := by decide +kernel
theorem dX8_standing_29 : decode cX8_standing 29 = .ok (.goto 4, 3) := by decide +kernel
theorem dX8_standing_32 : decode cX8_standing 32 = .ok (.iconst 0, 1) := by decide +kernel
theorem dX8_standing_33 : decode cX8_standing 33 = .ok (.ior, 1) := by decide +kernel
theorem dX8_standing_34 : decode cX8_standing 34 = .ok (.istore_n 2, 1) := by decide +kernel
theorem dX8_standing_35 : decode cX8_standing 35 = .ok (.iinc 3 1, 3) := by decide +kernel
theorem dX8_standing_38 : decode cX8_standing 38 = .ok (.goto (-34), 3) := by decide +kernel
theorem dX8_standing_41 : decode cX8_standing 41 = .ok (.iload_n 2, 1) := by decide +kernel
theorem dX8_standing_42 : decode cX8_standing 42 = .ok (.ireturn, 1) := by decide +kernel
theorem sd835_0 (F : zFx p l R s m args meth c D cid kv N0 xs Ls RX8 cX8_standing 4 n0 z0 nF zE d) (IH : zAllM l D cid kv N0 xs Ls d) (hQ : ∀ v h, Qq v h → v = r0 ∧ h = hF) (hn : nF = zN hF) (hz : zE = zZ hF) (hlocks : meth.locks = false) (hr : meth.sig.returnType = (some .int)) : zSoL p l e R s m args below meth c D cid kv N0 xs Ls 4 (MQ below (zQc D cid kv N0 xs Ls ρ0 r0 hF) args s (nF - n0) (zE - z0) (zA N0)) ρ0 n0 z0 nF zE Qq (zCall d) zt835_0 := zc_so (si_iconst F dX8_standing_0 rfl)
  (zc_so (si_istore_n F dX8_standing_1 rfl)
  (zc_so (si_iconst F dX8_standing_2 rfl)
  (zc_so (si_istore_n F dX8_standing_3 rfl)
  (zc_so (si_iload_n F dX8_standing_4 rfl)
  (zc_so (si_aload_n F dX8_standing_5 rfl)
  (zc_so (si_getR (k := 0) F rfl inT8 (by decide) (by decide) rfl rfl tb_704 dX8_standing_6)
  (zc_so (si_bipush F dX8_standing_9 rfl)
  (zc_so (si_iaload F dX8_standing_11)
  (zc_so (si_icge F dX8_standing_12 rfl)
  (zc_so (si_iload_n F dX8_standing_15 rfl)
  (zc_so (si_aload_n F dX8_standing_16 rfl)
  (zc_so (si_iload_n F dX8_standing_17 rfl)
  (zc_so (si_iconst F dX8_standing_18 rfl)
  (zc_so (si_cV F (IH 808 mm808) mp808 (by decide) rfl rfl (by decide) tb_819 mi808 ms808 mn808 mc808 dX8_standing_19)
  (zc_so (si_iload_n F dX8_standing_22 rfl)
  (zc_so (si_icne F dX8_standing_23 rfl)
  (zc_so (si_iconst F dX8_standing_26 rfl)
  (zc_so (si_iload_n F dX8_standing_27 rfl)
  (zc_so (si_ishl F dX8_standing_28)
  (zc_so (si_goto F dX8_standing_29 rfl)
  (zc_so (si_iconst F dX8_standing_32 rfl)
  (zc_so (si_ior F dX8_standing_33)
  (zc_so (si_istore_n F dX8_standing_34 rfl)
  (zc_so (si_iinc F dX8_standing_35 rfl)
  (zc_so (si_goto F dX8_standing_38 rfl)
  (zc_so (si_iload_n F dX8_standing_41 rfl)
  (zc_so (si_rI F hQ hn hz hlocks hr (fun _ _ => rfl) dX8_standing_42)
  (zc_nil))))))))))))))))))))))))))))
theorem sd835 (F : zFx p l R s m args meth c D cid kv N0 xs Ls RX8 cX8_standing 4 n0 z0 nF zE d) (IH : zAllM l D cid kv N0 xs Ls d) (hQ : ∀ v h, Qq v h → v = r0 ∧ h = hF) (hn : nF = zN hF) (hz : zE = zZ hF) (hlocks : meth.locks = false) (hr : meth.sig.returnType = (some .int)) (pc : Nat) : zSo p l e R s m args below meth c D cid kv N0 xs Ls 4 (MQ below (zQc D cid kv N0 xs Ls ρ0 r0 hF) args s (nF - n0) (zE - z0) (zA N0)) ρ0 n0 z0 nF zE Qq (zCall d) pc (zTab 835 pc) := zc_tab [zt835_0] (zc_cons (sd835_0 F IH hQ hn hz hlocks hr) zc_end)
theorem dX8_backs_0 : decode cX8_backs 0 = .ok (.iconst 0, 1) := by decide +kernel
theorem dX8_backs_1 : decode cX8_backs 1 = .ok (.istore_n 1, 1) := by decide +kernel
theorem dX8_backs_2 : decode cX8_backs 2 = .ok (.iconst 0, 1) := by decide +kernel
theorem dX8_backs_3 : decode cX8_backs 3 = .ok (.istore_n 2, 1) := by decide +kernel
theorem dX8_backs_4 : decode cX8_backs 4 = .ok (.iload_n 2, 1) := by decide +kernel
theorem dX8_backs_5 : decode cX8_backs 5 = .ok (.aload_n 0, 1) := by decide +kernel
theorem dX8_backs_6 : decode cX8_backs 6 = .ok (.getfield 15, 3) := by decide +kernel
theorem dX8_backs_9 : decode cX8_backs 9 = .ok (.bipush 60, 2) := by decide +kernel
theorem dX8_backs_11 : decode cX8_backs 11 = .ok (.iaload, 1) := by decide +kernel
theorem dX8_backs_12 : decode cX8_backs 12 = .ok (.if_icmp .ge 20, 3) := by decide +kernel
theorem dX8_backs_15 : decode cX8_backs 15 = .ok (.iload_n 1, 1) := by decide +kernel
theorem dX8_backs_16 : decode cX8_backs 16 = .ok (.aload_n 0, 1) := by decide +kernel
theorem dX8_backs_17 : decode cX8_backs 17 = .ok (.iload_n 2, 1) := by decide +kernel
theorem dX8_backs_18 : decode cX8_backs 18 = .ok (.iconst 4, 1) := by decide +kernel
theorem dX8_backs_19 : decode cX8_backs 19 = .ok (.invokevirtual 88, 3) := by decide +kernel
theorem dX8_backs_22 : decode cX8_backs 22 = .ok (.iload_n 2, 1) := by decide +kernel
theorem dX8_backs_23 : decode cX8_backs 23 = .ok (.ishl, 1) := by decide +kernel
theorem dX8_backs_24 : decode cX8_backs 24 = .ok (.ior, 1) := by decide +kernel
theorem dX8_backs_25 : decode cX8_backs 25 = .ok (.istore_n 1, 1) := by decide +kernel
theorem dX8_backs_26 : decode cX8_backs 26 = .ok (.iinc 2 1, 3) := by decide +kernel
theorem dX8_backs_29 : decode cX8_backs 29 = .ok (.goto (-25), 3) := by decide +kernel
theorem dX8_backs_32 : decode cX8_backs 32 = .ok (.iload_n 1, 1) := by decide +kernel
theorem dX8_backs_33 : decode cX8_backs 33 = .ok (.ireturn, 1) := by decide +kernel
theorem sd836_0 (F : zFx p l R s m args meth c D cid kv N0 xs Ls RX8 cX8_backs 3 n0 z0 nF zE d) (IH : zAllM l D cid kv N0 xs Ls d) (hQ : ∀ v h, Qq v h → v = r0 ∧ h = hF) (hn : nF = zN hF) (hz : zE = zZ hF) (hlocks : meth.locks = false) (hr : meth.sig.returnType = (some .int)) : zSoL p l e R s m args below meth c D cid kv N0 xs Ls 3 (MQ below (zQc D cid kv N0 xs Ls ρ0 r0 hF) args s (nF - n0) (zE - z0) (zA N0)) ρ0 n0 z0 nF zE Qq (zCall d) zt836_0 := zc_so (si_iconst F dX8_backs_0 rfl)
  (zc_so (si_istore_n F dX8_backs_1 rfl)
  (zc_so (si_iconst F dX8_backs_2 rfl)
  (zc_so (si_istore_n F dX8_backs_3 rfl)
  (zc_so (si_iload_n F dX8_backs_4 rfl)
  (zc_so (si_aload_n F dX8_backs_5 rfl)
  (zc_so (si_getR (k := 0) F rfl inT8 (by decide) (by decide) rfl rfl tb_704 dX8_backs_6)
  (zc_so (si_bipush F dX8_backs_9 rfl)
  (zc_so (si_iaload F dX8_backs_11)
  (zc_so (si_icge F dX8_backs_12 rfl)
  (zc_so (si_iload_n F dX8_backs_15 rfl)
  (zc_so (si_aload_n F dX8_backs_16 rfl)
  (zc_so (si_iload_n F dX8_backs_17 rfl)
  (zc_so (si_iconst F dX8_backs_18 rfl)
  (zc_so (si_cV F (IH 808 mm808) mp808 (by decide) rfl rfl (by decide) tb_819 mi808 ms808 mn808 mc808 dX8_backs_19)
  (zc_so (si_iload_n F dX8_backs_22 rfl)
  (zc_so (si_ishl F dX8_backs_23)
  (zc_so (si_ior F dX8_backs_24)
  (zc_so (si_istore_n F dX8_backs_25 rfl)
  (zc_so (si_iinc F dX8_backs_26 rfl)
  (zc_so (si_goto F dX8_backs_29 rfl)
  (zc_so (si_iload_n F dX8_backs_32 rfl)
  (zc_so (si_rI F hQ hn hz hlocks hr (fun _ _ => rfl) dX8_backs_33)
  (zc_nil)))))))))))))))))))))))
theorem sd836 (F : zFx p l R s m args meth c D cid kv N0 xs Ls RX8 cX8_backs 3 n0 z0 nF zE d) (IH : zAllM l D cid kv N0 xs Ls d) (hQ : ∀ v h, Qq v h → v = r0 ∧ h = hF) (hn : nF = zN hF) (hz : zE = zZ hF) (hlocks : meth.locks = false) (hr : meth.sig.returnType = (some .int)) (pc : Nat) : zSo p l e R s m args below meth c D cid kv N0 xs Ls 3 (MQ below (zQc D cid kv N0 xs Ls ρ0 r0 hF) args s (nF - n0) (zE - z0) (zA N0)) ρ0 n0 z0 nF zE Qq (zCall d) pc (zTab 836 pc) := zc_tab [zt836_0] (zc_cons (sd836_0 F IH hQ hn hz hlocks hr) zc_end)
theorem dX8_gets_0 : decode cX8_gets 0 = .ok (.aload_n 0, 1) := by decide +kernel
theorem dX8_gets_1 : decode cX8_gets 1 = .ok (.getfield 15, 3) := by decide +kernel
theorem dX8_gets_4 : decode cX8_gets 4 = .ok (.aload_n 0, 1) := by decide +kernel
theorem dX8_gets_5 : decode cX8_gets 5 = .ok (.getfield 19, 3) := by decide +kernel
theorem dX8_gets_8 : decode cX8_gets 8 = .ok (.invokestatic 80, 3) := by decide +kernel
theorem dX8_gets_11 : decode cX8_gets 11 = .ok (.bipush (-5), 2) := by decide +kernel
theorem dX8_gets_13 : decode cX8_gets 13 = .ok (.istore_n 2, 1) := by decide +kernel
theorem dX8_gets_14 : decode cX8_gets 14 = .ok (.iconst 0, 1) := by decide +kernel
theorem dX8_gets_15 : decode cX8_gets 15 = .ok (.istore_n 3, 1) := by decide +kernel
theorem dX8_gets_16 : decode cX8_gets 16 = .ok (.iload_n 3, 1) := by decide +kernel
theorem dX8_gets_17 : decode cX8_gets 17 = .ok (.bipush 60, 2) := by decide +kernel
theorem dX8_gets_19 : decode cX8_gets 19 = .ok (.if_icmp .gt 37, 3) := by decide +kernel
theorem dX8_gets_22 : decode cX8_gets 22 = .ok (.iload_n 2, 1) := by decide +kernel
theorem dX8_gets_23 : decode cX8_gets 23 = .ok (.bipush (-5), 2) := by decide +kernel
theorem dX8_gets_25 : decode cX8_gets 25 = .ok (.if_icmp .ne 31, 3) := by decide +kernel
theorem dX8_gets_28 : decode cX8_gets 28 = .ok (.aload_n 0, 1) := by decide +kernel
theorem dX8_gets_29 : decode cX8_gets 29 = .ok (.iload_n 1, 1) := by decide +kernel
theorem dX8_gets_30 : decode cX8_gets 30 = .ok (.iconst 3, 1) := by decide +kernel
theorem dX8_gets_31 : decode cX8_gets 31 = .ok (.invokevirtual 88, 3) := by decide +kernel
theorem dX8_gets_34 : decode cX8_gets 34 = .ok (.bipush 10, 2) := by decide +kernel
theorem dX8_gets_36 : decode cX8_gets 36 = .ok (.if_icmp .ne 7, 3) := by decide +kernel
theorem dX8_gets_39 : decode cX8_gets 39 = .ok (.iload_n 3, 1) := by decide +kernel
theorem dX8_gets_40 : decode cX8_gets 40 = .ok (.goto 5, 3) := by decide +kernel
theorem dX8_gets_43 : decode cX8_gets 43 = .ok (.bipush (-5), 2) := by decide +kernel
theorem dX8_gets_45 : decode cX8_gets 45 = .ok (.istore_n 2, 1) := by decide +kernel
theorem dX8_gets_46 : decode cX8_gets 46 = .ok (.aload_n 0, 1) := by decide +kernel
theorem dX8_gets_47 : decode cX8_gets 47 = .ok (.invokevirtual 182, 3) := by decide +kernel
theorem dX8_gets_50 : decode cX8_gets 50 = .ok (.iinc 3 1, 3) := by decide +kernel
theorem dX8_gets_53 : decode cX8_gets 53 = .ok (.goto (-37), 3) := by decide +kernel
theorem dX8_gets_56 : decode cX8_gets 56 = .ok (.aload_n 0, 1) := by decide +kernel
theorem dX8_gets_57 : decode cX8_gets 57 = .ok (.getfield 19, 3) := by decide +kernel
theorem dX8_gets_60 : decode cX8_gets 60 = .ok (.aload_n 0, 1) := by decide +kernel
theorem dX8_gets_61 : decode cX8_gets 61 = .ok (.getfield 15, 3) := by decide +kernel
theorem dX8_gets_64 : decode cX8_gets 64 = .ok (.invokestatic 80, 3) := by decide +kernel
theorem dX8_gets_67 : decode cX8_gets 67 = .ok (.iload_n 2, 1) := by decide +kernel
theorem dX8_gets_68 : decode cX8_gets 68 = .ok (.ireturn, 1) := by decide +kernel
theorem sd837_0 (F : zFx p l R s m args meth c D cid kv N0 xs Ls RX8 cX8_gets 4 n0 z0 nF zE d) (IH : zAllM l D cid kv N0 xs Ls d) (hQ : ∀ v h, Qq v h → v = r0 ∧ h = hF) (hn : nF = zN hF) (hz : zE = zZ hF) (hlocks : meth.locks = false) (hr : meth.sig.returnType = (some .int)) : zSoL p l e R s m args below meth c D cid kv N0 xs Ls 4 (MQ below (zQc D cid kv N0 xs Ls ρ0 r0 hF) args s (nF - n0) (zE - z0) (zA N0)) ρ0 n0 z0 nF zE Qq (zCall d) zt837_0 := zc_so (si_aload_n F dX8_gets_0 rfl)
  (zc_so (si_getR (k := 0) F rfl inT8 (by decide) (by decide) rfl rfl tb_704 dX8_gets_1)
  (zc_so (si_aload_n F dX8_gets_4 rfl)
  (zc_so (si_getR (k := 1) F rfl inT8 (by decide) (by decide) rfl rfl tb_705 dX8_gets_5)
  (zc_so (si_cS  F (IH 804 mm804) mp804 (by decide) tb_797 mi804 mn804 mc804 dX8_gets_8)
  (zc_so (si_bipush F dX8_gets_11 rfl)
  (zc_so (si_istore_n F dX8_gets_13 rfl)
  (zc_so (si_iconst F dX8_gets_14 rfl)
  (zc_so (si_istore_n F dX8_gets_15 rfl)
  (zc_so (si_iload_n F dX8_gets_16 rfl)
  (zc_so (si_bipush F dX8_gets_17 rfl)
  (zc_so (si_icgt F dX8_gets_19 rfl)
  (zc_so (si_iload_n F dX8_gets_22 rfl)
  (zc_so (si_bipush F dX8_gets_23 rfl)
  (zc_so (si_icne F dX8_gets_25 rfl)
  (zc_so (si_aload_n F dX8_gets_28 rfl)
  (zc_so (si_iload_n F dX8_gets_29 rfl)
  (zc_so (si_iconst F dX8_gets_30 rfl)
  (zc_so (si_cV F (IH 808 mm808) mp808 (by decide) rfl rfl (by decide) tb_819 mi808 ms808 mn808 mc808 dX8_gets_31)
  (zc_so (si_bipush F dX8_gets_34 rfl)
  (zc_so (si_icne F dX8_gets_36 rfl)
  (zc_so (si_iload_n F dX8_gets_39 rfl)
  (zc_so (si_goto F dX8_gets_40 rfl)
  (zc_so (si_bipush F dX8_gets_43 rfl)
  (zc_so (si_istore_n F dX8_gets_45 rfl)
  (zc_so (si_aload_n F dX8_gets_46 rfl)
  (zc_so (si_cV F (IH 833 mm833) mp833 (by decide) rfl rfl (by decide) tb_880 mi833 ms833 mn833 mc833 dX8_gets_47)
  (zc_so (si_iinc F dX8_gets_50 rfl)
  (zc_so (si_goto F dX8_gets_53 rfl)
  (zc_so (si_aload_n F dX8_gets_56 rfl)
  (zc_so (si_getR (k := 1) F rfl inT8 (by decide) (by decide) rfl rfl tb_705 dX8_gets_57)
  (zc_so (si_aload_n F dX8_gets_60 rfl)
  (zc_so (si_getR (k := 0) F rfl inT8 (by decide) (by decide) rfl rfl tb_704 dX8_gets_61)
  (zc_nil)))))))))))))))))))))))))))))))))
theorem sd837_1 (F : zFx p l R s m args meth c D cid kv N0 xs Ls RX8 cX8_gets 4 n0 z0 nF zE d) (IH : zAllM l D cid kv N0 xs Ls d) (hQ : ∀ v h, Qq v h → v = r0 ∧ h = hF) (hn : nF = zN hF) (hz : zE = zZ hF) (hlocks : meth.locks = false) (hr : meth.sig.returnType = (some .int)) : zSoL p l e R s m args below meth c D cid kv N0 xs Ls 4 (MQ below (zQc D cid kv N0 xs Ls ρ0 r0 hF) args s (nF - n0) (zE - z0) (zA N0)) ρ0 n0 z0 nF zE Qq (zCall d) zt837_1 := zc_so (si_cS  F (IH 804 mm804) mp804 (by decide) tb_797 mi804 mn804 mc804 dX8_gets_64)
  (zc_so (si_iload_n F dX8_gets_67 rfl)
  (zc_so (si_rI F hQ hn hz hlocks hr (fun _ _ => rfl) dX8_gets_68)
  (zc_nil)))
theorem sd837 (F : zFx p l R s m args meth c D cid kv N0 xs Ls RX8 cX8_gets 4 n0 z0 nF zE d) (IH : zAllM l D cid kv N0 xs Ls d) (hQ : ∀ v h, Qq v h → v = r0 ∧ h = hF) (hn : nF = zN hF) (hz : zE = zZ hF) (hlocks : meth.locks = false) (hr : meth.sig.returnType = (some .int)) (pc : Nat) : zSo p l e R s m args below meth c D cid kv N0 xs Ls 4 (MQ below (zQc D cid kv N0 xs Ls ρ0 r0 hF) args s (nF - n0) (zE - z0) (zA N0)) ρ0 n0 z0 nF zE Qq (zCall d) pc (zTab 837 pc) := zc_tab [zt837_0, zt837_1] (zc_cons (sd837_0 F IH hQ hn hz hlocks hr) (zc_cons (sd837_1 F IH hQ hn hz hlocks hr) zc_end))
theorem dX8_payNow_0 : decode cX8_payNow 0 = .ok (.aload_n 0, 1) := by decide +kernel
theorem dX8_payNow_1 : decode cX8_payNow 1 = .ok (.iconst 0, 1) := by decide +kernel
theorem dX8_payNow_2 : decode cX8_payNow 2 = .ok (.invokevirtual 168, 3) := by decide +kernel
theorem dX8_payNow_5 : decode cX8_payNow 5 = .ok (.aload_n 0, 1) := by decide +kernel
theorem dX8_payNow_6 : decode cX8_payNow 6 = .ok (.getfield 153, 3) := by decide +kernel
theorem dX8_payNow_9 : decode cX8_payNow 9 = .ok (.ireturn, 1) := by decide +kernel
theorem sd838_0 (F : zFx p l R s m args meth c D cid kv N0 xs Ls RX8 cX8_payNow 1 n0 z0 nF zE d) (IH : zAllM l D cid kv N0 xs Ls d) (hQ : ∀ v h, Qq v h → v = r0 ∧ h = hF) (hn : nF = zN hF) (hz : zE = zZ hF) (hlocks : meth.locks = false) (hr : meth.sig.returnType = (some .int)) : zSoL p l e R s m args below meth c D cid kv N0 xs Ls 1 (MQ below (zQc D cid kv N0 xs Ls ρ0 r0 hF) args s (nF - n0) (zE - z0) (zA N0)) ρ0 n0 z0 nF zE Qq (zCall d) zt838_0 := zc_so (si_aload_n F dX8_payNow_0 rfl)
  (zc_so (si_iconst F dX8_payNow_1 rfl)
  (zc_so (si_cV F (IH 828 mm828) mp828 (by decide) rfl rfl (by decide) tb_827 mi828 ms828 mn828 mc828 dX8_payNow_2)
  (zc_so (si_aload_n F dX8_payNow_5 rfl)
  (zc_so (si_getI (k := 16) F rfl inT8 (by decide) (by decide) rfl rfl tb_720 dX8_payNow_6)
  (zc_so (si_rI F hQ hn hz hlocks hr (fun _ _ => rfl) dX8_payNow_9)
  (zc_nil))))))
theorem sd838 (F : zFx p l R s m args meth c D cid kv N0 xs Ls RX8 cX8_payNow 1 n0 z0 nF zE d) (IH : zAllM l D cid kv N0 xs Ls d) (hQ : ∀ v h, Qq v h → v = r0 ∧ h = hF) (hn : nF = zN hF) (hz : zE = zZ hF) (hlocks : meth.locks = false) (hr : meth.sig.returnType = (some .int)) (pc : Nat) : zSo p l e R s m args below meth c D cid kv N0 xs Ls 1 (MQ below (zQc D cid kv N0 xs Ls ρ0 r0 hF) args s (nF - n0) (zE - z0) (zA N0)) ρ0 n0 z0 nF zE Qq (zCall d) pc (zTab 838 pc) := zc_tab [zt838_0] (zc_cons (sd838_0 F IH hQ hn hz hlocks hr) zc_end)
theorem dX8_told_0 : decode cX8_told 0 = .ok (.iload_n 1, 1) := by decide +kernel
theorem dX8_told_1 : decode cX8_told 1 = .ok (.tableswitch 78 0 5 #[39, 47, 52, 60, 67, 72], 39) := by decide +kernel
theorem dX8_told_40 : decode cX8_told 40 = .ok (.aload_n 0, 1) := by decide +kernel
theorem dX8_told_41 : decode cX8_told 41 = .ok (.getfield 15, 3) := by decide +kernel
theorem dX8_told_44 : decode cX8_told 44 = .ok (.bipush 62, 2) := by decide +kernel
theorem dX8_told_46 : decode cX8_told 46 = .ok (.iaload, 1) := by decide +kernel
theorem dX8_told_47 : decode cX8_told 47 = .ok (.ireturn, 1) := by decide +kernel
theorem dX8_told_48 : decode cX8_told 48 = .ok (.aload_n 0, 1) := by decide +kernel
theorem dX8_told_49 : decode cX8_told 49 = .ok (.invokevirtual 185, 3) := by decide +kernel
theorem dX8_told_52 : decode cX8_told 52 = .ok (.ireturn, 1) := by decide +kernel
theorem dX8_told_53 : decode cX8_told 53 = .ok (.aload_n 0, 1) := by decide +kernel
theorem dX8_told_54 : decode cX8_told 54 = .ok (.getfield 15, 3) := by decide +kernel
theorem dX8_told_57 : decode cX8_told 57 = .ok (.bipush 61, 2) := by decide +kernel
theorem dX8_told_59 : decode cX8_told 59 = .ok (.iaload, 1) := by decide +kernel
theorem dX8_told_60 : decode cX8_told 60 = .ok (.ireturn, 1) := by decide +kernel
theorem dX8_told_61 : decode cX8_told 61 = .ok (.aload_n 0, 1) := by decide +kernel
theorem dX8_told_62 : decode cX8_told 62 = .ok (.bipush 10, 2) := by decide +kernel
theorem dX8_told_64 : decode cX8_told 64 = .ok (.invokevirtual 188, 3) := by decide +kernel
theorem dX8_told_67 : decode cX8_told 67 = .ok (.ireturn, 1) := by decide +kernel
theorem dX8_told_68 : decode cX8_told 68 = .ok (.aload_n 0, 1) := by decide +kernel
theorem dX8_told_69 : decode cX8_told 69 = .ok (.invokevirtual 191, 3) := by decide +kernel
theorem dX8_told_72 : decode cX8_told 72 = .ok (.ireturn, 1) := by decide +kernel
theorem dX8_told_73 : decode cX8_told 73 = .ok (.aload_n 0, 1) := by decide +kernel
theorem dX8_told_74 : decode cX8_told 74 = .ok (.iconst 5, 1) := by decide +kernel
theorem dX8_told_75 : decode cX8_told 75 = .ok (.invokevirtual 188, 3) := by decide +kernel
theorem dX8_told_78 : decode cX8_told 78 = .ok (.ireturn, 1) := by decide +kernel
theorem dX8_told_79 : decode cX8_told 79 = .ok (.iconst (-1), 1) := by decide +kernel
theorem dX8_told_80 : decode cX8_told 80 = .ok (.ireturn, 1) := by decide +kernel
theorem sd839_0 (F : zFx p l R s m args meth c D cid kv N0 xs Ls RX8 cX8_told 2 n0 z0 nF zE d) (IH : zAllM l D cid kv N0 xs Ls d) (hQ : ∀ v h, Qq v h → v = r0 ∧ h = hF) (hn : nF = zN hF) (hz : zE = zZ hF) (hlocks : meth.locks = false) (hr : meth.sig.returnType = (some .int)) : zSoL p l e R s m args below meth c D cid kv N0 xs Ls 2 (MQ below (zQc D cid kv N0 xs Ls ρ0 r0 hF) args s (nF - n0) (zE - z0) (zA N0)) ρ0 n0 z0 nF zE Qq (zCall d) zt839_0 := zc_so (si_iload_n F dX8_told_0 rfl)
  (zc_so (so_swT F.1.1 F.1.2.1 dX8_told_1 rfl rfl ⟨rfl, rfl, ⟨rfl, rfl, ⟨rfl, rfl, ⟨rfl, rfl, ⟨rfl, rfl, ⟨rfl, rfl, trivial⟩⟩⟩⟩⟩⟩)
  (zc_so (si_aload_n F dX8_told_40 rfl)
  (zc_so (si_getR (k := 0) F rfl inT8 (by decide) (by decide) rfl rfl tb_704 dX8_told_41)
  (zc_so (si_bipush F dX8_told_44 rfl)
  (zc_so (si_iaload F dX8_told_46)
  (zc_so (si_rI F hQ hn hz hlocks hr (fun _ _ => rfl) dX8_told_47)
  (zc_so (si_aload_n F dX8_told_48 rfl)
  (zc_so (si_cV F (IH 838 mm838) mp838 (by decide) rfl rfl (by decide) tb_925 mi838 ms838 mn838 mc838 dX8_told_49)
  (zc_so (si_rI F hQ hn hz hlocks hr (fun _ _ => rfl) dX8_told_52)
  (zc_so (si_aload_n F dX8_told_53 rfl)
  (zc_so (si_getR (k := 0) F rfl inT8 (by decide) (by decide) rfl rfl tb_704 dX8_told_54)
  (zc_so (si_bipush F dX8_told_57 rfl)
  (zc_so (si_iaload F dX8_told_59)
  (zc_so (si_rI F hQ hn hz hlocks hr (fun _ _ => rfl) dX8_told_60)
  (zc_so (si_aload_n F dX8_told_61 rfl)
  (zc_so (si_bipush F dX8_told_62 rfl)
  (zc_nil)))))))))))))))))
theorem sd839_1 (F : zFx p l R s m args meth c D cid kv N0 xs Ls RX8 cX8_told 2 n0 z0 nF zE d) (IH : zAllM l D cid kv N0 xs Ls d) (hQ : ∀ v h, Qq v h → v = r0 ∧ h = hF) (hn : nF = zN hF) (hz : zE = zZ hF) (hlocks : meth.locks = false) (hr : meth.sig.returnType = (some .int)) : zSoL p l e R s m args below meth c D cid kv N0 xs Ls 2 (MQ below (zQc D cid kv N0 xs Ls ρ0 r0 hF) args s (nF - n0) (zE - z0) (zA N0)) ρ0 n0 z0 nF zE Qq (zCall d) zt839_1 := zc_so (si_cV F (IH 835 mm835) mp835 (by decide) rfl rfl (by decide) tb_929 mi835 ms835 mn835 mc835 dX8_told_64)
  (zc_so (si_rI F hQ hn hz hlocks hr (fun _ _ => rfl) dX8_told_67)
  (zc_so (si_aload_n F dX8_told_68 rfl)
  (zc_so (si_cV F (IH 836 mm836) mp836 (by decide) rfl rfl (by decide) tb_933 mi836 ms836 mn836 mc836 dX8_told_69)
  (zc_so (si_rI F hQ hn hz hlocks hr (fun _ _ => rfl) dX8_told_72)
  (zc_so (si_aload_n F dX8_told_73 rfl)
  (zc_so (si_iconst F dX8_told_74 rfl)
  (zc_so (si_cV F (IH 835 mm835) mp835 (by decide) rfl rfl (by decide) tb_929 mi835 ms835 mn835 mc835 dX8_told_75)
  (zc_so (si_rI F hQ hn hz hlocks hr (fun _ _ => rfl) dX8_told_78)
  (zc_so (si_iconst F dX8_told_79 rfl)
  (zc_so (si_rI F hQ hn hz hlocks hr (fun _ _ => rfl) dX8_told_80)
  (zc_nil)))))))))))
theorem sd839 (F : zFx p l R s m args meth c D cid kv N0 xs Ls RX8 cX8_told 2 n0 z0 nF zE d) (IH : zAllM l D cid kv N0 xs Ls d) (hQ : ∀ v h, Qq v h → v = r0 ∧ h = hF) (hn : nF = zN hF) (hz : zE = zZ hF) (hlocks : meth.locks = false) (hr : meth.sig.returnType = (some .int)) (pc : Nat) : zSo p l e R s m args below meth c D cid kv N0 xs Ls 2 (MQ below (zQc D cid kv N0 xs Ls ρ0 r0 hF) args s (nF - n0) (zE - z0) (zA N0)) ρ0 n0 z0 nF zE Qq (zCall d) pc (zTab 839 pc) := zc_tab [zt839_0, zt839_1] (zc_cons (sd839_0 F IH hQ hn hz hlocks hr) (zc_cons (sd839_1 F IH hQ hn hz hlocks hr) zc_end))
theorem dX8_pass_0 : decode cX8_pass 0 = .ok (.iload_n 1, 1) := by decide +kernel
theorem dX8_pass_1 : decode cX8_pass 1 = .ok (.iconst 0, 1) := by decide +kernel
theorem dX8_pass_2 : decode cX8_pass 2 = .ok (.bipush 60, 2) := by decide +kernel
theorem dX8_pass_4 : decode cX8_pass 4 = .ok (.invokestatic 84, 3) := by decide +kernel
theorem dX8_pass_7 : decode cX8_pass 7 = .ok (.ifCond .ne 6, 3) := by decide +kernel
theorem dX8_pass_10 : decode cX8_pass 10 = .ok (.bipush (-2), 2) := by decide +kernel
theorem dX8_pass_12 : decode cX8_pass 12 = .ok (.ireturn, 1) := by decide +kernel
theorem dX8_pass_13 : decode cX8_pass 13 = .ok (.aload_n 0, 1) := by decide +kernel
theorem dX8_pass_14 : decode cX8_pass 14 = .ok (.getfield 15, 3) := by decide +kernel
theorem dX8_pass_17 : decode cX8_pass 17 = .ok (.bipush 62, 2) := by decide +kernel
theorem dX8_pass_19 : decode cX8_pass 19 = .ok (.iaload, 1) := by decide +kernel
theorem dX8_pass_20 : decode cX8_pass 20 = .ok (.iload_n 1, 1) := by decide +kernel
theorem dX8_pass_21 : decode cX8_pass 21 = .ok (.iadd, 1) := by decide +kernel
theorem dX8_pass_22 : decode cX8_pass 22 = .ok (.sipush 9999, 3) := by decide +kernel
theorem dX8_pass_25 : decode cX8_pass 25 = .ok (.if_icmp .le 6, 3) := by decide +kernel
theorem dX8_pass_28 : decode cX8_pass 28 = .ok (.bipush (-3), 2) := by decide +kernel
theorem dX8_pass_30 : decode cX8_pass 30 = .ok (.ireturn, 1) := by decide +kernel
theorem dX8_pass_31 : decode cX8_pass 31 = .ok (.aload_n 0, 1) := by decide +kernel
theorem dX8_pass_32 : decode cX8_pass 32 = .ok (.iload_n 1, 1) := by decide +kernel
theorem dX8_pass_33 : decode cX8_pass 33 = .ok (.invokevirtual 194, 3) := by decide +kernel
theorem dX8_pass_36 : decode cX8_pass 36 = .ok (.aload_n 0, 1) := by decide +kernel
theorem dX8_pass_37 : decode cX8_pass 37 = .ok (.getfield 15, 3) := by decide +kernel
theorem dX8_pass_40 : decode cX8_pass 40 = .ok (.bipush 62, 2) := by decide +kernel
theorem dX8_pass_42 : decode cX8_pass 42 = .ok (.iaload, 1) := by decide +kernel
theorem dX8_pass_43 : decode cX8_pass 43 = .ok (.ireturn, 1) := by decide +kernel
theorem sd840_0 (F : zFx p l R s m args meth c D cid kv N0 xs Ls RX8 cX8_pass 2 n0 z0 nF zE d) (IH : zAllM l D cid kv N0 xs Ls d) (hQ : ∀ v h, Qq v h → v = r0 ∧ h = hF) (hn : nF = zN hF) (hz : zE = zZ hF) (hlocks : meth.locks = false) (hr : meth.sig.returnType = (some .int)) : zSoL p l e R s m args below meth c D cid kv N0 xs Ls 2 (MQ below (zQc D cid kv N0 xs Ls ρ0 r0 hF) args s (nF - n0) (zE - z0) (zA N0)) ρ0 n0 z0 nF zE Qq (zCall d) zt840_0 := zc_so (si_iload_n F dX8_pass_0 rfl)
  (zc_so (si_iconst F dX8_pass_1 rfl)
  (zc_so (si_bipush F dX8_pass_2 rfl)
  (zc_so (si_cS  F (IH 802 mm802) mp802 (by decide) tb_808 mi802 mn802 mc802 dX8_pass_4)
  (zc_so (si_ifne F dX8_pass_7 rfl)
  (zc_so (si_bipush F dX8_pass_10 rfl)
  (zc_so (si_rI F hQ hn hz hlocks hr (fun _ _ => rfl) dX8_pass_12)
  (zc_so (si_aload_n F dX8_pass_13 rfl)
  (zc_so (si_getR (k := 0) F rfl inT8 (by decide) (by decide) rfl rfl tb_704 dX8_pass_14)
  (zc_so (si_bipush F dX8_pass_17 rfl)
  (zc_so (si_iaload F dX8_pass_19)
  (zc_so (si_iload_n F dX8_pass_20 rfl)
  (zc_so (si_iadd F dX8_pass_21)
  (zc_so (si_sipush F dX8_pass_22 rfl)
  (zc_so (si_icle F dX8_pass_25 rfl)
  (zc_so (si_bipush F dX8_pass_28 rfl)
  (zc_so (si_rI F hQ hn hz hlocks hr (fun _ _ => rfl) dX8_pass_30)
  (zc_so (si_aload_n F dX8_pass_31 rfl)
  (zc_so (si_iload_n F dX8_pass_32 rfl)
  (zc_so (si_cV F (IH 834 mm834) mp834 (by decide) rfl rfl (by decide) tb_941 mi834 ms834 mn834 mc834 dX8_pass_33)
  (zc_so (si_aload_n F dX8_pass_36 rfl)
  (zc_so (si_getR (k := 0) F rfl inT8 (by decide) (by decide) rfl rfl tb_704 dX8_pass_37)
  (zc_so (si_bipush F dX8_pass_40 rfl)
  (zc_so (si_iaload F dX8_pass_42)
  (zc_so (si_rI F hQ hn hz hlocks hr (fun _ _ => rfl) dX8_pass_43)
  (zc_nil)))))))))))))))))))))))))
theorem sd840 (F : zFx p l R s m args meth c D cid kv N0 xs Ls RX8 cX8_pass 2 n0 z0 nF zE d) (IH : zAllM l D cid kv N0 xs Ls d) (hQ : ∀ v h, Qq v h → v = r0 ∧ h = hF) (hn : nF = zN hF) (hz : zE = zZ hF) (hlocks : meth.locks = false) (hr : meth.sig.returnType = (some .int)) (pc : Nat) : zSo p l e R s m args below meth c D cid kv N0 xs Ls 2 (MQ below (zQc D cid kv N0 xs Ls ρ0 r0 hF) args s (nF - n0) (zE - z0) (zA N0)) ρ0 n0 z0 nF zE Qq (zCall d) pc (zTab 840 pc) := zc_tab [zt840_0] (zc_cons (sd840_0 F IH hQ hn hz hlocks hr) zc_end)
theorem dX8_on_0 : decode cX8_on 0 = .ok (.iload_n 2, 1) := by decide +kernel
theorem dX8_on_1 : decode cX8_on 1 = .ok (.iconst 0, 1) := by decide +kernel
theorem dX8_on_2 : decode cX8_on 2 = .ok (.iconst 1, 1) := by decide +kernel
theorem dX8_on_3 : decode cX8_on 3 = .ok (.invokestatic 84, 3) := by decide +kernel
theorem dX8_on_6 : decode cX8_on 6 = .ok (.ifCond .ne 27, 3) := by decide +kernel
theorem dX8_on_9 : decode cX8_on 9 = .ok (.aload_n 0, 1) := by decide +kernel
theorem dX8_on_10 : decode cX8_on 10 = .ok (.iload_n 2, 1) := by decide +kernel
theorem dX8_on_11 : decode cX8_on 11 = .ok (.bipush 10, 2) := by decide +kernel
theorem dX8_on_13 : decode cX8_on 13 = .ok (.isub, 1) := by decide +kernel
theorem dX8_on_14 : decode cX8_on 14 = .ok (.invokevirtual 92, 3) := by decide +kernel
theorem dX8_on_17 : decode cX8_on 17 = .ok (.ifCond .ne 16, 3) := by decide +kernel
theorem dX8_on_20 : decode cX8_on 20 = .ok (.aload_n 0, 1) := by decide +kernel
theorem dX8_on_21 : decode cX8_on 21 = .ok (.iload_n 2, 1) := by decide +kernel
theorem dX8_on_22 : decode cX8_on 22 = .ok (.bipush 20, 2) := by decide +kernel
theorem dX8_on_24 : decode cX8_on 24 = .ok (.isub, 1) := by decide +kernel
theorem dX8_on_25 : decode cX8_on 25 = .ok (.invokevirtual 92, 3) := by decide +kernel
theorem dX8_on_28 : decode cX8_on 28 = .ok (.ifCond .ne 5, 3) := by decide +kernel
theorem dX8_on_31 : decode cX8_on 31 = .ok (.iconst (-1), 1) := by decide +kernel
theorem dX8_on_32 : decode cX8_on 32 = .ok (.ireturn, 1) := by decide +kernel
theorem dX8_on_33 : decode cX8_on 33 = .ok (.iload_n 1, 1) := by decide +kernel
theorem dX8_on_34 : decode cX8_on 34 = .ok (.iconst 0, 1) := by decide +kernel
theorem dX8_on_35 : decode cX8_on 35 = .ok (.bipush 60, 2) := by decide +kernel
theorem dX8_on_37 : decode cX8_on 37 = .ok (.invokestatic 84, 3) := by decide +kernel
theorem dX8_on_40 : decode cX8_on 40 = .ok (.ifCond .ne 6, 3) := by decide +kernel
theorem dX8_on_43 : decode cX8_on 43 = .ok (.bipush (-2), 2) := by decide +kernel
theorem dX8_on_45 : decode cX8_on 45 = .ok (.ireturn, 1) := by decide +kernel
theorem dX8_on_46 : decode cX8_on 46 = .ok (.aload_n 0, 1) := by decide +kernel
theorem dX8_on_47 : decode cX8_on 47 = .ok (.getfield 15, 3) := by decide +kernel
theorem dX8_on_50 : decode cX8_on 50 = .ok (.aload_n 0, 1) := by decide +kernel
theorem dX8_on_51 : decode cX8_on 51 = .ok (.getfield 19, 3) := by decide +kernel
theorem dX8_on_54 : decode cX8_on 54 = .ok (.invokestatic 80, 3) := by decide +kernel
theorem dX8_on_57 : decode cX8_on 57 = .ok (.aload_n 0, 1) := by decide +kernel
theorem dX8_on_58 : decode cX8_on 58 = .ok (.iload_n 1, 1) := by decide +kernel
theorem dX8_on_59 : decode cX8_on 59 = .ok (.invokevirtual 194, 3) := by decide +kernel
theorem dX8_on_62 : decode cX8_on 62 = .ok (.iload_n 2, 1) := by decide +kernel
theorem dX8_on_63 : decode cX8_on 63 = .ok (.ifCond .ne 13, 3) := by decide +kernel
theorem dX8_on_66 : decode cX8_on 66 = .ok (.aload_n 0, 1) := by decide +kernel
theorem dX8_on_67 : decode cX8_on 67 = .ok (.getfield 15, 3) := by decide +kernel
theorem dX8_on_70 : decode cX8_on 70 = .ok (.bipush 61, 2) := by decide +kernel
theorem dX8_on_72 : decode cX8_on 72 = .ok (.iaload, 1) := by decide +kernel
theorem dX8_on_73 : decode cX8_on 73 = .ok (.goto 44, 3) := by decide +kernel
theorem dX8_on_76 : decode cX8_on 76 = .ok (.iload_n 2, 1) := by decide +kernel
theorem dX8_on_77 : decode cX8_on 77 = .ok (.iconst 1, 1) := by decide +kernel
theorem dX8_on_78 : decode cX8_on 78 = .ok (.if_icmp .ne 12, 3) := by decide +kernel
theorem dX8_on_81 : decode cX8_on 81 = .ok (.aload_n 0, 1) := by decide +kernel
theorem dX8_on_82 : decode cX8_on 82 = .ok (.bipush 10, 2) := by decide +kernel
theorem dX8_on_84 : decode cX8_on 84 = .ok (.invokevirtual 188, 3) := by decide +kernel
theorem dX8_on_87 : decode cX8_on 87 = .ok (.goto 30, 3) := by decide +kernel
theorem dX8_on_90 : decode cX8_on 90 = .ok (.iload_n 2, 1) := by decide +kernel
theorem dX8_on_91 : decode cX8_on 91 = .ok (.bipush 20, 2) := by decide +kernel
theorem dX8_on_93 : decode cX8_on 93 = .ok (.if_icmp .ge 15, 3) := by decide +kernel
theorem dX8_on_96 : decode cX8_on 96 = .ok (.aload_n 0, 1) := by decide +kernel
theorem dX8_on_97 : decode cX8_on 97 = .ok (.iload_n 2, 1) := by decide +kernel
theorem dX8_on_98 : decode cX8_on 98 = .ok (.bipush 10, 2) := by decide +kernel
theorem dX8_on_100 : decode cX8_on 100 = .ok (.isub, 1) := by decide +kernel
theorem dX8_on_101 : decode cX8_on 101 = .ok (.iconst 3, 1) := by decide +kernel
theorem dX8_on_102 : decode cX8_on 102 = .ok (.invokevirtual 88, 3) := by decide +kernel
theorem dX8_on_105 : decode cX8_on 105 = .ok (.goto 12, 3) := by decide +kernel
theorem dX8_on_108 : decode cX8_on 108 = .ok (.aload_n 0, 1) := by decide +kernel
theorem dX8_on_109 : decode cX8_on 109 = .ok (.iload_n 2, 1) := by decide +kernel
theorem dX8_on_110 : decode cX8_on 110 = .ok (.bipush 20, 2) := by decide +kernel
theorem dX8_on_112 : decode cX8_on 112 = .ok (.isub, 1) := by decide +kernel
theorem dX8_on_113 : decode cX8_on 113 = .ok (.iconst 5, 1) := by decide +kernel
theorem dX8_on_114 : decode cX8_on 114 = .ok (.invokevirtual 88, 3) := by decide +kernel
theorem dX8_on_117 : decode cX8_on 117 = .ok (.istore_n 3, 1) := by decide +kernel
theorem dX8_on_118 : decode cX8_on 118 = .ok (.aload_n 0, 1) := by decide +kernel
theorem dX8_on_119 : decode cX8_on 119 = .ok (.getfield 19, 3) := by decide +kernel
theorem dX8_on_122 : decode cX8_on 122 = .ok (.aload_n 0, 1) := by decide +kernel
theorem dX8_on_123 : decode cX8_on 123 = .ok (.getfield 15, 3) := by decide +kernel
theorem dX8_on_126 : decode cX8_on 126 = .ok (.invokestatic 80, 3) := by decide +kernel
theorem dX8_on_129 : decode cX8_on 129 = .ok (.iload_n 3, 1) := by decide +kernel
theorem dX8_on_130 : decode cX8_on 130 = .ok (.ireturn, 1) := by decide +kernel
theorem sd841_0 (F : zFx p l R s m args meth c D cid kv N0 xs Ls RX8 cX8_on 4 n0 z0 nF zE d) (IH : zAllM l D cid kv N0 xs Ls d) (hQ : ∀ v h, Qq v h → v = r0 ∧ h = hF) (hn : nF = zN hF) (hz : zE = zZ hF) (hlocks : meth.locks = false) (hr : meth.sig.returnType = (some .int)) : zSoL p l e R s m args below meth c D cid kv N0 xs Ls 4 (MQ below (zQc D cid kv N0 xs Ls ρ0 r0 hF) args s (nF - n0) (zE - z0) (zA N0)) ρ0 n0 z0 nF zE Qq (zCall d) zt841_0 := zc_so (si_iload_n F dX8_on_0 rfl)
  (zc_so (si_iconst F dX8_on_1 rfl)
  (zc_so (si_iconst F dX8_on_2 rfl)
  (zc_so (si_cS  F (IH 802 mm802) mp802 (by decide) tb_808 mi802 mn802 mc802 dX8_on_3)
  (zc_so (si_ifne F dX8_on_6 rfl)
  (zc_so (si_aload_n F dX8_on_9 rfl)
  (zc_so (si_iload_n F dX8_on_10 rfl)
  (zc_so (si_bipush F dX8_on_11 rfl)
  (zc_so (si_isub F dX8_on_13)
  (zc_so (si_cV F (IH 807 mm807) mp807 (by decide) rfl rfl (by decide) tb_815 mi807 ms807 mn807 mc807 dX8_on_14)
  (zc_so (si_ifne F dX8_on_17 rfl)
  (zc_so (si_aload_n F dX8_on_20 rfl)
  (zc_so (si_iload_n F dX8_on_21 rfl)
  (zc_so (si_bipush F dX8_on_22 rfl)
  (zc_so (si_isub F dX8_on_24)
  (zc_so (si_cV F (IH 807 mm807) mp807 (by decide) rfl rfl (by decide) tb_815 mi807 ms807 mn807 mc807 dX8_on_25)
  (zc_so (si_ifne F dX8_on_28 rfl)
  (zc_so (si_iconst F dX8_on_31 rfl)
  (zc_so (si_rI F hQ hn hz hlocks hr (fun _ _ => rfl) dX8_on_32)
  (zc_so (si_iload_n F dX8_on_33 rfl)
  (zc_so (si_iconst F dX8_on_34 rfl)
  (zc_so (si_bipush F dX8_on_35 rfl)
  (zc_so (si_cS  F (IH 802 mm802) mp802 (by decide) tb_808 mi802 mn802 mc802 dX8_on_37)
  (zc_so (si_ifne F dX8_on_40 rfl)
  (zc_so (si_bipush F dX8_on_43 rfl)
  (zc_so (si_rI F hQ hn hz hlocks hr (fun _ _ => rfl) dX8_on_45)
  (zc_so (si_aload_n F dX8_on_46 rfl)
  (zc_so (si_getR (k := 0) F rfl inT8 (by decide) (by decide) rfl rfl tb_704 dX8_on_47)
  (zc_so (si_aload_n F dX8_on_50 rfl)
  (zc_so (si_getR (k := 1) F rfl inT8 (by decide) (by decide) rfl rfl tb_705 dX8_on_51)
  (zc_so (si_cS  F (IH 804 mm804) mp804 (by decide) tb_797 mi804 mn804 mc804 dX8_on_54)
  (zc_so (si_aload_n F dX8_on_57 rfl)
  (zc_so (si_iload_n F dX8_on_58 rfl)
  (zc_so (si_cV F (IH 834 mm834) mp834 (by decide) rfl rfl (by decide) tb_941 mi834 ms834 mn834 mc834 dX8_on_59)
  (zc_so (si_iload_n F dX8_on_62 rfl)
  (zc_so (si_ifne F dX8_on_63 rfl)
  (zc_nil))))))))))))))))))))))))))))))))))))
theorem sd841_1 (F : zFx p l R s m args meth c D cid kv N0 xs Ls RX8 cX8_on 4 n0 z0 nF zE d) (IH : zAllM l D cid kv N0 xs Ls d) (hQ : ∀ v h, Qq v h → v = r0 ∧ h = hF) (hn : nF = zN hF) (hz : zE = zZ hF) (hlocks : meth.locks = false) (hr : meth.sig.returnType = (some .int)) : zSoL p l e R s m args below meth c D cid kv N0 xs Ls 4 (MQ below (zQc D cid kv N0 xs Ls ρ0 r0 hF) args s (nF - n0) (zE - z0) (zA N0)) ρ0 n0 z0 nF zE Qq (zCall d) zt841_1 := zc_so (si_aload_n F dX8_on_66 rfl)
  (zc_so (si_getR (k := 0) F rfl inT8 (by decide) (by decide) rfl rfl tb_704 dX8_on_67)
  (zc_so (si_bipush F dX8_on_70 rfl)
  (zc_so (si_iaload F dX8_on_72)
  (zc_so (si_goto F dX8_on_73 rfl)
  (zc_so (si_iload_n F dX8_on_76 rfl)
  (zc_so (si_iconst F dX8_on_77 rfl)
  (zc_so (si_icne F dX8_on_78 rfl)
  (zc_so (si_aload_n F dX8_on_81 rfl)
  (zc_so (si_bipush F dX8_on_82 rfl)
  (zc_so (si_cV F (IH 835 mm835) mp835 (by decide) rfl rfl (by decide) tb_929 mi835 ms835 mn835 mc835 dX8_on_84)
  (zc_so (si_goto F dX8_on_87 rfl)
  (zc_so (si_iload_n F dX8_on_90 rfl)
  (zc_so (si_bipush F dX8_on_91 rfl)
  (zc_so (si_icge F dX8_on_93 rfl)
  (zc_so (si_aload_n F dX8_on_96 rfl)
  (zc_so (si_iload_n F dX8_on_97 rfl)
  (zc_so (si_bipush F dX8_on_98 rfl)
  (zc_so (si_isub F dX8_on_100)
  (zc_so (si_iconst F dX8_on_101 rfl)
  (zc_so (si_cV F (IH 808 mm808) mp808 (by decide) rfl rfl (by decide) tb_819 mi808 ms808 mn808 mc808 dX8_on_102)
  (zc_so (si_goto F dX8_on_105 rfl)
  (zc_so (si_aload_n F dX8_on_108 rfl)
  (zc_so (si_iload_n F dX8_on_109 rfl)
  (zc_so (si_bipush F dX8_on_110 rfl)
  (zc_so (si_isub F dX8_on_112)
  (zc_so (si_iconst F dX8_on_113 rfl)
  (zc_so (si_cV F (IH 808 mm808) mp808 (by decide) rfl rfl (by decide) tb_819 mi808 ms808 mn808 mc808 dX8_on_114)
  (zc_so (si_istore_n F dX8_on_117 rfl)
  (zc_so (si_aload_n F dX8_on_118 rfl)
  (zc_so (si_getR (k := 1) F rfl inT8 (by decide) (by decide) rfl rfl tb_705 dX8_on_119)
  (zc_so (si_aload_n F dX8_on_122 rfl)
  (zc_so (si_getR (k := 0) F rfl inT8 (by decide) (by decide) rfl rfl tb_704 dX8_on_123)
  (zc_so (si_cS  F (IH 804 mm804) mp804 (by decide) tb_797 mi804 mn804 mc804 dX8_on_126)
  (zc_nil))))))))))))))))))))))))))))))))))
theorem sd841_2 (F : zFx p l R s m args meth c D cid kv N0 xs Ls RX8 cX8_on 4 n0 z0 nF zE d) (IH : zAllM l D cid kv N0 xs Ls d) (hQ : ∀ v h, Qq v h → v = r0 ∧ h = hF) (hn : nF = zN hF) (hz : zE = zZ hF) (hlocks : meth.locks = false) (hr : meth.sig.returnType = (some .int)) : zSoL p l e R s m args below meth c D cid kv N0 xs Ls 4 (MQ below (zQc D cid kv N0 xs Ls ρ0 r0 hF) args s (nF - n0) (zE - z0) (zA N0)) ρ0 n0 z0 nF zE Qq (zCall d) zt841_2 := zc_so (si_iload_n F dX8_on_129 rfl)
  (zc_so (si_rI F hQ hn hz hlocks hr (fun _ _ => rfl) dX8_on_130)
  (zc_nil))
theorem sd841 (F : zFx p l R s m args meth c D cid kv N0 xs Ls RX8 cX8_on 4 n0 z0 nF zE d) (IH : zAllM l D cid kv N0 xs Ls d) (hQ : ∀ v h, Qq v h → v = r0 ∧ h = hF) (hn : nF = zN hF) (hz : zE = zZ hF) (hlocks : meth.locks = false) (hr : meth.sig.returnType = (some .int)) (pc : Nat) : zSo p l e R s m args below meth c D cid kv N0 xs Ls 4 (MQ below (zQc D cid kv N0 xs Ls ρ0 r0 hF) args s (nF - n0) (zE - z0) (zA N0)) ρ0 n0 z0 nF zE Qq (zCall d) pc (zTab 841 pc) := zc_tab [zt841_0, zt841_1, zt841_2] (zc_cons (sd841_0 F IH hQ hn hz hlocks hr) (zc_cons (sd841_1 F IH hQ hn hz hlocks hr) (zc_cons (sd841_2 F IH hQ hn hz hlocks hr) zc_end)))
theorem dX8_many_0 : decode cX8_many 0 = .ok (.iconst 0, 1) := by decide +kernel
theorem dX8_many_1 : decode cX8_many 1 = .ok (.istore_n 1, 1) := by decide +kernel
theorem dX8_many_2 : decode cX8_many 2 = .ok (.iconst 0, 1) := by decide +kernel
theorem dX8_many_3 : decode cX8_many 3 = .ok (.istore_n 2, 1) := by decide +kernel
theorem dX8_many_4 : decode cX8_many 4 = .ok (.iload_n 2, 1) := by decide +kernel
theorem dX8_many_5 : decode cX8_many 5 = .ok (.bipush 6, 2) := by decide +kernel
theorem dX8_many_7 : decode cX8_many 7 = .ok (.if_icmp .ge 17, 3) := by decide +kernel
theorem dX8_many_10 : decode cX8_many 10 = .ok (.iload_n 1, 1) := by decide +kernel
theorem dX8_many_11 : decode cX8_many 11 = .ok (.iload_n 0, 1) := by decide +kernel
theorem dX8_many_12 : decode cX8_many 12 = .ok (.iload_n 2, 1) := by decide +kernel
theorem dX8_many_13 : decode cX8_many 13 = .ok (.ishr, 1) := by decide +kernel
theorem dX8_many_14 : decode cX8_many 14 = .ok (.iconst 1, 1) := by decide +kernel
theorem dX8_many_15 : decode cX8_many 15 = .ok (.iand, 1) := by decide +kernel
theorem dX8_many_16 : decode cX8_many 16 = .ok (.iadd, 1) := by decide +kernel
theorem dX8_many_17 : decode cX8_many 17 = .ok (.istore_n 1, 1) := by decide +kernel
theorem dX8_many_18 : decode cX8_many 18 = .ok (.iinc 2 1, 3) := by decide +kernel
theorem dX8_many_21 : decode cX8_many 21 = .ok (.goto (-17), 3) := by decide +kernel
theorem dX8_many_24 : decode cX8_many 24 = .ok (.iload_n 1, 1) := by decide +kernel
theorem dX8_many_25 : decode cX8_many 25 = .ok (.ireturn, 1) := by decide +kernel
theorem sd842_0 (F : zFx p l R s m args meth c D cid kv N0 xs Ls RX8 cX8_many 3 n0 z0 nF zE d) (IH : zAllM l D cid kv N0 xs Ls d) (hQ : ∀ v h, Qq v h → v = r0 ∧ h = hF) (hn : nF = zN hF) (hz : zE = zZ hF) (hlocks : meth.locks = false) (hr : meth.sig.returnType = (some .int)) : zSoL p l e R s m args below meth c D cid kv N0 xs Ls 3 (MQ below (zQc D cid kv N0 xs Ls ρ0 r0 hF) args s (nF - n0) (zE - z0) (zA N0)) ρ0 n0 z0 nF zE Qq (zCall d) zt842_0 := zc_so (si_iconst F dX8_many_0 rfl)
  (zc_so (si_istore_n F dX8_many_1 rfl)
  (zc_so (si_iconst F dX8_many_2 rfl)
  (zc_so (si_istore_n F dX8_many_3 rfl)
  (zc_so (si_iload_n F dX8_many_4 rfl)
  (zc_so (si_bipush F dX8_many_5 rfl)
  (zc_so (si_icge F dX8_many_7 rfl)
  (zc_so (si_iload_n F dX8_many_10 rfl)
  (zc_so (si_iload_n F dX8_many_11 rfl)
  (zc_so (si_iload_n F dX8_many_12 rfl)
  (zc_so (si_ishr F dX8_many_13)
  (zc_so (si_iconst F dX8_many_14 rfl)
  (zc_so (si_iand F dX8_many_15)
  (zc_so (si_iadd F dX8_many_16)
  (zc_so (si_istore_n F dX8_many_17 rfl)
  (zc_so (si_iinc F dX8_many_18 rfl)
  (zc_so (si_goto F dX8_many_21 rfl)
  (zc_so (si_iload_n F dX8_many_24 rfl)
  (zc_so (si_rI F hQ hn hz hlocks hr (fun _ _ => rfl) dX8_many_25)
  (zc_nil)))))))))))))))))))
theorem sd842 (F : zFx p l R s m args meth c D cid kv N0 xs Ls RX8 cX8_many 3 n0 z0 nF zE d) (IH : zAllM l D cid kv N0 xs Ls d) (hQ : ∀ v h, Qq v h → v = r0 ∧ h = hF) (hn : nF = zN hF) (hz : zE = zZ hF) (hlocks : meth.locks = false) (hr : meth.sig.returnType = (some .int)) (pc : Nat) : zSo p l e R s m args below meth c D cid kv N0 xs Ls 3 (MQ below (zQc D cid kv N0 xs Ls ρ0 r0 hF) args s (nF - n0) (zE - z0) (zA N0)) ρ0 n0 z0 nF zE Qq (zCall d) pc (zTab 842 pc) := zc_tab [zt842_0] (zc_cons (sd842_0 F IH hQ hn hz hlocks hr) zc_end)
theorem dX8_cheap_0 : decode cX8_cheap 0 = .ok (.iconst 0, 1) := by decide +kernel
theorem dX8_cheap_1 : decode cX8_cheap 1 = .ok (.istore_n 3, 1) := by decide +kernel
theorem dX8_cheap_2 : decode cX8_cheap 2 = .ok (.bipush 7, 2) := by decide +kernel
theorem dX8_cheap_4 : decode cX8_cheap 4 = .ok (.istore 4, 2) := by decide +kernel
theorem dX8_cheap_6 : decode cX8_cheap 6 = .ok (.iconst 0, 1) := by decide +kernel
theorem dX8_cheap_7 : decode cX8_cheap 7 = .ok (.istore 5, 2) := by decide +kernel
theorem dX8_cheap_9 : decode cX8_cheap 9 = .ok (.iload 5, 2) := by decide +kernel
theorem dX8_cheap_11 : decode cX8_cheap 11 = .ok (.bipush 50, 2) := by decide +kernel
theorem dX8_cheap_13 : decode cX8_cheap 13 = .ok (.if_icmp .ge 49, 3) := by decide +kernel
theorem dX8_cheap_16 : decode cX8_cheap 16 = .ok (.aload_n 0, 1) := by decide +kernel
theorem dX8_cheap_17 : decode cX8_cheap 17 = .ok (.iload 5, 2) := by decide +kernel
theorem dX8_cheap_19 : decode cX8_cheap 19 = .ok (.putfield 25, 3) := by decide +kernel
theorem dX8_cheap_22 : decode cX8_cheap 22 = .ok (.aload_n 0, 1) := by decide +kernel
theorem dX8_cheap_23 : decode cX8_cheap 23 = .ok (.iload_n 1, 1) := by decide +kernel
theorem dX8_cheap_24 : decode cX8_cheap 24 = .ok (.iconst 1, 1) := by decide +kernel
theorem dX8_cheap_25 : decode cX8_cheap 25 = .ok (.invokevirtual 197, 3) := by decide +kernel
theorem dX8_cheap_28 : decode cX8_cheap 28 = .ok (.invokestatic 200, 3) := by decide +kernel
theorem dX8_cheap_31 : decode cX8_cheap 31 = .ok (.istore 6, 2) := by decide +kernel
theorem dX8_cheap_33 : decode cX8_cheap 33 = .ok (.iload 6, 2) := by decide +kernel
theorem dX8_cheap_35 : decode cX8_cheap 35 = .ok (.iload 4, 2) := by decide +kernel
theorem dX8_cheap_37 : decode cX8_cheap 37 = .ok (.if_icmp .ge 8, 3) := by decide +kernel
theorem dX8_cheap_40 : decode cX8_cheap 40 = .ok (.iload 5, 2) := by decide +kernel
theorem dX8_cheap_42 : decode cX8_cheap 42 = .ok (.goto 4, 3) := by decide +kernel
theorem dX8_cheap_45 : decode cX8_cheap 45 = .ok (.iload_n 3, 1) := by decide +kernel
theorem dX8_cheap_46 : decode cX8_cheap 46 = .ok (.istore_n 3, 1) := by decide +kernel
theorem dX8_cheap_47 : decode cX8_cheap 47 = .ok (.iload 6, 2) := by decide +kernel
theorem dX8_cheap_49 : decode cX8_cheap 49 = .ok (.iload 4, 2) := by decide +kernel
theorem dX8_cheap_51 : decode cX8_cheap 51 = .ok (.invokestatic 171, 3) := by decide +kernel
theorem dX8_cheap_54 : decode cX8_cheap 54 = .ok (.istore 4, 2) := by decide +kernel
theorem dX8_cheap_56 : decode cX8_cheap 56 = .ok (.iinc 5 1, 3) := by decide +kernel
theorem dX8_cheap_59 : decode cX8_cheap 59 = .ok (.goto (-50), 3) := by decide +kernel
theorem dX8_cheap_62 : decode cX8_cheap 62 = .ok (.aload_n 0, 1) := by decide +kernel
theorem dX8_cheap_63 : decode cX8_cheap 63 = .ok (.iconst (-1), 1) := by decide +kernel
theorem dX8_cheap_64 : decode cX8_cheap 64 = .ok (.putfield 25, 3) := by decide +kernel
theorem dX8_cheap_67 : decode cX8_cheap 67 = .ok (.iload_n 2, 1) := by decide +kernel
theorem dX8_cheap_68 : decode cX8_cheap 68 = .ok (.ifCond .eq 8, 3) := by decide +kernel
theorem dX8_cheap_71 : decode cX8_cheap 71 = .ok (.iload 4, 2) := by decide +kernel
theorem dX8_cheap_73 : decode cX8_cheap 73 = .ok (.goto 4, 3) := by decide +kernel
theorem dX8_cheap_76 : decode cX8_cheap 76 = .ok (.iload_n 3, 1) := by decide +kernel
theorem dX8_cheap_77 : decode cX8_cheap 77 = .ok (.ireturn, 1) := by decide +kernel
theorem sd843_0 (F : zFx p l R s m args meth c D cid kv N0 xs Ls RX8 cX8_cheap 7 n0 z0 nF zE d) (IH : zAllM l D cid kv N0 xs Ls d) (hQ : ∀ v h, Qq v h → v = r0 ∧ h = hF) (hn : nF = zN hF) (hz : zE = zZ hF) (hlocks : meth.locks = false) (hr : meth.sig.returnType = (some .int)) : zSoL p l e R s m args below meth c D cid kv N0 xs Ls 7 (MQ below (zQc D cid kv N0 xs Ls ρ0 r0 hF) args s (nF - n0) (zE - z0) (zA N0)) ρ0 n0 z0 nF zE Qq (zCall d) zt843_0 := zc_so (si_iconst F dX8_cheap_0 rfl)
  (zc_so (si_istore_n F dX8_cheap_1 rfl)
  (zc_so (si_bipush F dX8_cheap_2 rfl)
  (zc_so (si_istore F dX8_cheap_4)
  (zc_so (si_iconst F dX8_cheap_6 rfl)
  (zc_so (si_istore F dX8_cheap_7)
  (zc_so (si_iload F dX8_cheap_9)
  (zc_so (si_bipush F dX8_cheap_11 rfl)
  (zc_so (si_icge F dX8_cheap_13 rfl)
  (zc_so (si_aload_n F dX8_cheap_16 rfl)
  (zc_so (si_iload F dX8_cheap_17)
  (zc_so (si_putI (k := 4) F rfl inT8 (by decide) (by decide) rfl rfl rfl rfl tyX8_ok nmX8 tb_708 dX8_cheap_19)
  (zc_so (si_aload_n F dX8_cheap_22 rfl)
  (zc_so (si_iload_n F dX8_cheap_23 rfl)
  (zc_so (si_iconst F dX8_cheap_24 rfl)
  (zc_so (si_cV F (IH 841 mm841) mp841 (by decide) rfl rfl (by decide) tb_957 mi841 ms841 mn841 mc841 dX8_cheap_25)
  (zc_so (si_cS  F (IH 842 mm842) mp842 (by decide) tb_958 mi842 mn842 mc842 dX8_cheap_28)
  (zc_so (si_istore F dX8_cheap_31)
  (zc_so (si_iload F dX8_cheap_33)
  (zc_so (si_iload F dX8_cheap_35)
  (zc_so (si_icge F dX8_cheap_37 rfl)
  (zc_so (si_iload F dX8_cheap_40)
  (zc_so (si_goto F dX8_cheap_42 rfl)
  (zc_so (si_iload_n F dX8_cheap_45 rfl)
  (zc_so (si_istore_n F dX8_cheap_46 rfl)
  (zc_so (si_iload F dX8_cheap_47)
  (zc_so (si_iload F dX8_cheap_49)
  (zc_so (si_min F tb_871 tb_298 tb_5 tb_299 dX8_cheap_51)
  (zc_so (si_istore F dX8_cheap_54)
  (zc_so (si_iinc F dX8_cheap_56 rfl)
  (zc_so (si_goto F dX8_cheap_59 rfl)
  (zc_so (si_aload_n F dX8_cheap_62 rfl)
  (zc_so (si_iconst F dX8_cheap_63 rfl)
  (zc_nil)))))))))))))))))))))))))))))))))
theorem sd843_1 (F : zFx p l R s m args meth c D cid kv N0 xs Ls RX8 cX8_cheap 7 n0 z0 nF zE d) (IH : zAllM l D cid kv N0 xs Ls d) (hQ : ∀ v h, Qq v h → v = r0 ∧ h = hF) (hn : nF = zN hF) (hz : zE = zZ hF) (hlocks : meth.locks = false) (hr : meth.sig.returnType = (some .int)) : zSoL p l e R s m args below meth c D cid kv N0 xs Ls 7 (MQ below (zQc D cid kv N0 xs Ls ρ0 r0 hF) args s (nF - n0) (zE - z0) (zA N0)) ρ0 n0 z0 nF zE Qq (zCall d) zt843_1 := zc_so (si_putI (k := 4) F rfl inT8 (by decide) (by decide) rfl rfl rfl rfl tyX8_ok nmX8 tb_708 dX8_cheap_64)
  (zc_so (si_iload_n F dX8_cheap_67 rfl)
  (zc_so (si_ifeq F dX8_cheap_68 rfl)
  (zc_so (si_iload F dX8_cheap_71)
  (zc_so (si_goto F dX8_cheap_73 rfl)
  (zc_so (si_iload_n F dX8_cheap_76 rfl)
  (zc_so (si_rI F hQ hn hz hlocks hr (fun _ _ => rfl) dX8_cheap_77)
  (zc_nil)))))))
theorem sd843 (F : zFx p l R s m args meth c D cid kv N0 xs Ls RX8 cX8_cheap 7 n0 z0 nF zE d) (IH : zAllM l D cid kv N0 xs Ls d) (hQ : ∀ v h, Qq v h → v = r0 ∧ h = hF) (hn : nF = zN hF) (hz : zE = zZ hF) (hlocks : meth.locks = false) (hr : meth.sig.returnType = (some .int)) (pc : Nat) : zSo p l e R s m args below meth c D cid kv N0 xs Ls 7 (MQ below (zQc D cid kv N0 xs Ls ρ0 r0 hF) args s (nF - n0) (zE - z0) (zA N0)) ρ0 n0 z0 nF zE Qq (zCall d) pc (zTab 843 pc) := zc_tab [zt843_0, zt843_1] (zc_cons (sd843_0 F IH hQ hn hz hlocks hr) (zc_cons (sd843_1 F IH hQ hn hz hlocks hr) zc_end))
theorem dX8_rich_0 : decode cX8_rich 0 = .ok (.bipush (-5), 2) := by decide +kernel
theorem dX8_rich_2 : decode cX8_rich 2 = .ok (.istore_n 2, 1) := by decide +kernel
theorem dX8_rich_3 : decode cX8_rich 3 = .ok (.iconst 0, 1) := by decide +kernel
theorem dX8_rich_4 : decode cX8_rich 4 = .ok (.istore_n 3, 1) := by decide +kernel
theorem dX8_rich_5 : decode cX8_rich 5 = .ok (.iload_n 3, 1) := by decide +kernel
theorem dX8_rich_6 : decode cX8_rich 6 = .ok (.bipush 50, 2) := by decide +kernel
theorem dX8_rich_8 : decode cX8_rich 8 = .ok (.if_icmp .ge 29, 3) := by decide +kernel
theorem dX8_rich_11 : decode cX8_rich 11 = .ok (.aload_n 0, 1) := by decide +kernel
theorem dX8_rich_12 : decode cX8_rich 12 = .ok (.iload_n 3, 1) := by decide +kernel
theorem dX8_rich_13 : decode cX8_rich 13 = .ok (.putfield 25, 3) := by decide +kernel
theorem dX8_rich_16 : decode cX8_rich 16 = .ok (.aload_n 0, 1) := by decide +kernel
theorem dX8_rich_17 : decode cX8_rich 17 = .ok (.iload_n 1, 1) := by decide +kernel
theorem dX8_rich_18 : decode cX8_rich 18 = .ok (.iconst 0, 1) := by decide +kernel
theorem dX8_rich_19 : decode cX8_rich 19 = .ok (.invokevirtual 197, 3) := by decide +kernel
theorem dX8_rich_22 : decode cX8_rich 22 = .ok (.ifCond .le 7, 3) := by decide +kernel
theorem dX8_rich_25 : decode cX8_rich 25 = .ok (.iload_n 3, 1) := by decide +kernel
theorem dX8_rich_26 : decode cX8_rich 26 = .ok (.goto 4, 3) := by decide +kernel
theorem dX8_rich_29 : decode cX8_rich 29 = .ok (.iload_n 2, 1) := by decide +kernel
theorem dX8_rich_30 : decode cX8_rich 30 = .ok (.istore_n 2, 1) := by decide +kernel
theorem dX8_rich_31 : decode cX8_rich 31 = .ok (.iinc 3 1, 3) := by decide +kernel
theorem dX8_rich_34 : decode cX8_rich 34 = .ok (.goto (-29), 3) := by decide +kernel
theorem dX8_rich_37 : decode cX8_rich 37 = .ok (.aload_n 0, 1) := by decide +kernel
theorem dX8_rich_38 : decode cX8_rich 38 = .ok (.iconst (-1), 1) := by decide +kernel
theorem dX8_rich_39 : decode cX8_rich 39 = .ok (.putfield 25, 3) := by decide +kernel
theorem dX8_rich_42 : decode cX8_rich 42 = .ok (.iload_n 2, 1) := by decide +kernel
theorem dX8_rich_43 : decode cX8_rich 43 = .ok (.ireturn, 1) := by decide +kernel
theorem sd844_0 (F : zFx p l R s m args meth c D cid kv N0 xs Ls RX8 cX8_rich 4 n0 z0 nF zE d) (IH : zAllM l D cid kv N0 xs Ls d) (hQ : ∀ v h, Qq v h → v = r0 ∧ h = hF) (hn : nF = zN hF) (hz : zE = zZ hF) (hlocks : meth.locks = false) (hr : meth.sig.returnType = (some .int)) : zSoL p l e R s m args below meth c D cid kv N0 xs Ls 4 (MQ below (zQc D cid kv N0 xs Ls ρ0 r0 hF) args s (nF - n0) (zE - z0) (zA N0)) ρ0 n0 z0 nF zE Qq (zCall d) zt844_0 := zc_so (si_bipush F dX8_rich_0 rfl)
  (zc_so (si_istore_n F dX8_rich_2 rfl)
  (zc_so (si_iconst F dX8_rich_3 rfl)
  (zc_so (si_istore_n F dX8_rich_4 rfl)
  (zc_so (si_iload_n F dX8_rich_5 rfl)
  (zc_so (si_bipush F dX8_rich_6 rfl)
  (zc_so (si_icge F dX8_rich_8 rfl)
  (zc_so (si_aload_n F dX8_rich_11 rfl)
  (zc_so (si_iload_n F dX8_rich_12 rfl)
  (zc_so (si_putI (k := 4) F rfl inT8 (by decide) (by decide) rfl rfl rfl rfl tyX8_ok nmX8 tb_708 dX8_rich_13)
  (zc_so (si_aload_n F dX8_rich_16 rfl)
  (zc_so (si_iload_n F dX8_rich_17 rfl)
  (zc_so (si_iconst F dX8_rich_18 rfl)
  (zc_so (si_cV F (IH 841 mm841) mp841 (by decide) rfl rfl (by decide) tb_957 mi841 ms841 mn841 mc841 dX8_rich_19)
  (zc_so (si_ifle F dX8_rich_22 rfl)
  (zc_so (si_iload_n F dX8_rich_25 rfl)
  (zc_so (si_goto F dX8_rich_26 rfl)
  (zc_so (si_iload_n F dX8_rich_29 rfl)
  (zc_so (si_istore_n F dX8_rich_30 rfl)
  (zc_so (si_iinc F dX8_rich_31 rfl)
  (zc_so (si_goto F dX8_rich_34 rfl)
  (zc_so (si_aload_n F dX8_rich_37 rfl)
  (zc_so (si_iconst F dX8_rich_38 rfl)
  (zc_so (si_putI (k := 4) F rfl inT8 (by decide) (by decide) rfl rfl rfl rfl tyX8_ok nmX8 tb_708 dX8_rich_39)
  (zc_so (si_iload_n F dX8_rich_42 rfl)
  (zc_so (si_rI F hQ hn hz hlocks hr (fun _ _ => rfl) dX8_rich_43)
  (zc_nil))))))))))))))))))))))))))
theorem sd844 (F : zFx p l R s m args meth c D cid kv N0 xs Ls RX8 cX8_rich 4 n0 z0 nF zE d) (IH : zAllM l D cid kv N0 xs Ls d) (hQ : ∀ v h, Qq v h → v = r0 ∧ h = hF) (hn : nF = zN hF) (hz : zE = zZ hF) (hlocks : meth.locks = false) (hr : meth.sig.returnType = (some .int)) (pc : Nat) : zSo p l e R s m args below meth c D cid kv N0 xs Ls 4 (MQ below (zQc D cid kv N0 xs Ls ρ0 r0 hF) args s (nF - n0) (zE - z0) (zA N0)) ρ0 n0 z0 nF zE Qq (zCall d) pc (zTab 844 pc) := zc_tab [zt844_0] (zc_cons (sd844_0 F IH hQ hn hz hlocks hr) zc_end)
theorem dX8_bag_0 : decode cX8_bag 0 = .ok (.bipush (-5), 2) := by decide +kernel
theorem dX8_bag_2 : decode cX8_bag 2 = .ok (.istore_n 2, 1) := by decide +kernel
theorem dX8_bag_3 : decode cX8_bag 3 = .ok (.iconst 0, 1) := by decide +kernel
theorem dX8_bag_4 : decode cX8_bag 4 = .ok (.istore_n 3, 1) := by decide +kernel
theorem dX8_bag_5 : decode cX8_bag 5 = .ok (.iload_n 3, 1) := by decide +kernel
theorem dX8_bag_6 : decode cX8_bag 6 = .ok (.iconst 1, 1) := by decide +kernel
theorem dX8_bag_7 : decode cX8_bag 7 = .ok (.aload_n 0, 1) := by decide +kernel
theorem dX8_bag_8 : decode cX8_bag 8 = .ok (.getfield 15, 3) := by decide +kernel
theorem dX8_bag_11 : decode cX8_bag 11 = .ok (.bipush 60, 2) := by decide +kernel
theorem dX8_bag_13 : decode cX8_bag 13 = .ok (.iaload, 1) := by decide +kernel
theorem dX8_bag_14 : decode cX8_bag 14 = .ok (.ishl, 1) := by decide +kernel
theorem dX8_bag_15 : decode cX8_bag 15 = .ok (.if_icmp .ge 118, 3) := by decide +kernel
theorem dX8_bag_18 : decode cX8_bag 18 = .ok (.iload_n 2, 1) := by decide +kernel
theorem dX8_bag_19 : decode cX8_bag 19 = .ok (.bipush (-5), 2) := by decide +kernel
theorem dX8_bag_21 : decode cX8_bag 21 = .ok (.if_icmp .eq 14, 3) := by decide +kernel
theorem dX8_bag_24 : decode cX8_bag 24 = .ok (.iload_n 3, 1) := by decide +kernel
theorem dX8_bag_25 : decode cX8_bag 25 = .ok (.invokestatic 200, 3) := by decide +kernel
theorem dX8_bag_28 : decode cX8_bag 28 = .ok (.iload_n 2, 1) := by decide +kernel
theorem dX8_bag_29 : decode cX8_bag 29 = .ok (.invokestatic 200, 3) := by decide +kernel
theorem dX8_bag_32 : decode cX8_bag 32 = .ok (.if_icmp .ge 95, 3) := by decide +kernel
theorem dX8_bag_35 : decode cX8_bag 35 = .ok (.aload_n 0, 1) := by decide +kernel
theorem dX8_bag_36 : decode cX8_bag 36 = .ok (.getfield 15, 3) := by decide +kernel
theorem dX8_bag_39 : decode cX8_bag 39 = .ok (.aload_n 0, 1) := by decide +kernel
theorem dX8_bag_40 : decode cX8_bag 40 = .ok (.getfield 19, 3) := by decide +kernel
theorem dX8_bag_43 : decode cX8_bag 43 = .ok (.invokestatic 80, 3) := by decide +kernel
theorem dX8_bag_46 : decode cX8_bag 46 = .ok (.iconst 0, 1) := by decide +kernel
theorem dX8_bag_47 : decode cX8_bag 47 = .ok (.istore 4, 2) := by decide +kernel
theorem dX8_bag_49 : decode cX8_bag 49 = .ok (.iload 4, 2) := by decide +kernel
theorem dX8_bag_51 : decode cX8_bag 51 = .ok (.aload_n 0, 1) := by decide +kernel
theorem dX8_bag_52 : decode cX8_bag 52 = .ok (.getfield 15, 3) := by decide +kernel
theorem dX8_bag_55 : decode cX8_bag 55 = .ok (.bipush 60, 2) := by decide +kernel
theorem dX8_bag_57 : decode cX8_bag 57 = .ok (.iaload, 1) := by decide +kernel
theorem dX8_bag_58 : decode cX8_bag 58 = .ok (.if_icmp .ge 38, 3) := by decide +kernel
theorem dX8_bag_61 : decode cX8_bag 61 = .ok (.aload_n 0, 1) := by decide +kernel
theorem dX8_bag_62 : decode cX8_bag 62 = .ok (.iload 4, 2) := by decide +kernel
theorem dX8_bag_64 : decode cX8_bag 64 = .ok (.iconst 2, 1) := by decide +kernel
theorem dX8_bag_65 : decode cX8_bag 65 = .ok (.iload_n 3, 1) := by decide +kernel
theorem dX8_bag_66 : decode cX8_bag 66 = .ok (.iload 4, 2) := by decide +kernel
theorem dX8_bag_68 : decode cX8_bag 68 = .ok (.ishr, 1) := by decide +kernel
theorem dX8_bag_69 : decode cX8_bag 69 = .ok (.iconst 1, 1) := by decide +kernel
theorem dX8_bag_70 : decode cX8_bag 70 = .ok (.iand, 1) := by decide +kernel
theorem dX8_bag_71 : decode cX8_bag 71 = .ok (.iconst 1, 1) := by decide +kernel
theorem dX8_bag_72 : decode cX8_bag 72 = .ok (.if_icmp .ne 7, 3) := by decide +kernel
theorem dX8_bag_75 : decode cX8_bag 75 = .ok (.iconst 0, 1) := by decide +kernel
theorem dX8_bag_76 : decode cX8_bag 76 = .ok (.goto 10, 3) := by decide +kernel
theorem dX8_bag_79 : decode cX8_bag 79 = .ok (.aload_n 0, 1) := by decide +kernel
theorem dX8_bag_80 : decode cX8_bag 80 = .ok (.iload 4, 2) := by decide +kernel
theorem dX8_bag_82 : decode cX8_bag 82 = .ok (.iconst 2, 1) := by decide +kernel
theorem dX8_bag_83 : decode cX8_bag 83 = .ok (.invokevirtual 88, 3) := by decide +kernel
theorem dX8_bag_86 : decode cX8_bag 86 = .ok (.invokevirtual 103, 3) := by decide +kernel
theorem dX8_bag_89 : decode cX8_bag 89 = .ok (.pop, 1) := by decide +kernel
theorem dX8_bag_90 : decode cX8_bag 90 = .ok (.iinc 4 1, 3) := by decide +kernel
theorem dX8_bag_93 : decode cX8_bag 93 = .ok (.goto (-44), 3) := by decide +kernel
theorem dX8_bag_96 : decode cX8_bag 96 = .ok (.aload_n 0, 1) := by decide +kernel
theorem dX8_bag_97 : decode cX8_bag 97 = .ok (.iload_n 1, 1) := by decide +kernel
theorem dX8_bag_98 : decode cX8_bag 98 = .ok (.invokevirtual 194, 3) := by decide +kernel
theorem dX8_bag_101 : decode cX8_bag 101 = .ok (.aload_n 0, 1) := by decide +kernel
theorem dX8_bag_102 : decode cX8_bag 102 = .ok (.bipush 10, 2) := by decide +kernel
theorem dX8_bag_104 : decode cX8_bag 104 = .ok (.invokevirtual 188, 3) := by decide +kernel
theorem dX8_bag_107 : decode cX8_bag 107 = .ok (.ifCond .ne 7, 3) := by decide +kernel
theorem dX8_bag_110 : decode cX8_bag 110 = .ok (.iload_n 3, 1) := by decide +kernel
theorem dX8_bag_111 : decode cX8_bag 111 = .ok (.goto 4, 3) := by decide +kernel
theorem dX8_bag_114 : decode cX8_bag 114 = .ok (.iload_n 2, 1) := by decide +kernel
theorem dX8_bag_115 : decode cX8_bag 115 = .ok (.istore_n 2, 1) := by decide +kernel
theorem dX8_bag_116 : decode cX8_bag 116 = .ok (.aload_n 0, 1) := by decide +kernel
theorem dX8_bag_117 : decode cX8_bag 117 = .ok (.getfield 19, 3) := by decide +kernel
theorem dX8_bag_120 : decode cX8_bag 120 = .ok (.aload_n 0, 1) := by decide +kernel
theorem dX8_bag_121 : decode cX8_bag 121 = .ok (.getfield 15, 3) := by decide +kernel
theorem dX8_bag_124 : decode cX8_bag 124 = .ok (.invokestatic 80, 3) := by decide +kernel
theorem dX8_bag_127 : decode cX8_bag 127 = .ok (.iinc 3 1, 3) := by decide +kernel
theorem dX8_bag_130 : decode cX8_bag 130 = .ok (.goto (-125), 3) := by decide +kernel
theorem dX8_bag_133 : decode cX8_bag 133 = .ok (.iload_n 2, 1) := by decide +kernel
theorem dX8_bag_134 : decode cX8_bag 134 = .ok (.ireturn, 1) := by decide +kernel
theorem sd845_0 (F : zFx p l R s m args meth c D cid kv N0 xs Ls RX8 cX8_bag 5 n0 z0 nF zE d) (IH : zAllM l D cid kv N0 xs Ls d) (hQ : ∀ v h, Qq v h → v = r0 ∧ h = hF) (hn : nF = zN hF) (hz : zE = zZ hF) (hlocks : meth.locks = false) (hr : meth.sig.returnType = (some .int)) : zSoL p l e R s m args below meth c D cid kv N0 xs Ls 5 (MQ below (zQc D cid kv N0 xs Ls ρ0 r0 hF) args s (nF - n0) (zE - z0) (zA N0)) ρ0 n0 z0 nF zE Qq (zCall d) zt845_0 := zc_so (si_bipush F dX8_bag_0 rfl)
  (zc_so (si_istore_n F dX8_bag_2 rfl)
  (zc_so (si_iconst F dX8_bag_3 rfl)
  (zc_so (si_istore_n F dX8_bag_4 rfl)
  (zc_so (si_iload_n F dX8_bag_5 rfl)
  (zc_so (si_iconst F dX8_bag_6 rfl)
  (zc_so (si_aload_n F dX8_bag_7 rfl)
  (zc_so (si_getR (k := 0) F rfl inT8 (by decide) (by decide) rfl rfl tb_704 dX8_bag_8)
  (zc_so (si_bipush F dX8_bag_11 rfl)
  (zc_so (si_iaload F dX8_bag_13)
  (zc_so (si_ishl F dX8_bag_14)
  (zc_so (si_icge F dX8_bag_15 rfl)
  (zc_so (si_iload_n F dX8_bag_18 rfl)
  (zc_so (si_bipush F dX8_bag_19 rfl)
  (zc_so (si_iceq F dX8_bag_21 rfl)
  (zc_so (si_iload_n F dX8_bag_24 rfl)
  (zc_so (si_cS  F (IH 842 mm842) mp842 (by decide) tb_958 mi842 mn842 mc842 dX8_bag_25)
  (zc_so (si_iload_n F dX8_bag_28 rfl)
  (zc_so (si_cS  F (IH 842 mm842) mp842 (by decide) tb_958 mi842 mn842 mc842 dX8_bag_29)
  (zc_so (si_icge F dX8_bag_32 rfl)
  (zc_so (si_aload_n F dX8_bag_35 rfl)
  (zc_so (si_getR (k := 0) F rfl inT8 (by decide) (by decide) rfl rfl tb_704 dX8_bag_36)
  (zc_so (si_aload_n F dX8_bag_39 rfl)
  (zc_so (si_getR (k := 1) F rfl inT8 (by decide) (by decide) rfl rfl tb_705 dX8_bag_40)
  (zc_so (si_cS  F (IH 804 mm804) mp804 (by decide) tb_797 mi804 mn804 mc804 dX8_bag_43)
  (zc_so (si_iconst F dX8_bag_46 rfl)
  (zc_so (si_istore F dX8_bag_47)
  (zc_so (si_iload F dX8_bag_49)
  (zc_so (si_aload_n F dX8_bag_51 rfl)
  (zc_so (si_getR (k := 0) F rfl inT8 (by decide) (by decide) rfl rfl tb_704 dX8_bag_52)
  (zc_so (si_bipush F dX8_bag_55 rfl)
  (zc_so (si_iaload F dX8_bag_57)
  (zc_so (si_icge F dX8_bag_58 rfl)
  (zc_so (si_aload_n F dX8_bag_61 rfl)
  (zc_so (si_iload F dX8_bag_62)
  (zc_nil)))))))))))))))))))))))))))))))))))
theorem sd845_1 (F : zFx p l R s m args meth c D cid kv N0 xs Ls RX8 cX8_bag 5 n0 z0 nF zE d) (IH : zAllM l D cid kv N0 xs Ls d) (hQ : ∀ v h, Qq v h → v = r0 ∧ h = hF) (hn : nF = zN hF) (hz : zE = zZ hF) (hlocks : meth.locks = false) (hr : meth.sig.returnType = (some .int)) : zSoL p l e R s m args below meth c D cid kv N0 xs Ls 5 (MQ below (zQc D cid kv N0 xs Ls ρ0 r0 hF) args s (nF - n0) (zE - z0) (zA N0)) ρ0 n0 z0 nF zE Qq (zCall d) zt845_1 := zc_so (si_iconst F dX8_bag_64 rfl)
  (zc_so (si_iload_n F dX8_bag_65 rfl)
  (zc_so (si_iload F dX8_bag_66)
  (zc_so (si_ishr F dX8_bag_68)
  (zc_so (si_iconst F dX8_bag_69 rfl)
  (zc_so (si_iand F dX8_bag_70)
  (zc_so (si_iconst F dX8_bag_71 rfl)
  (zc_so (si_icne F dX8_bag_72 rfl)
  (zc_so (si_iconst F dX8_bag_75 rfl)
  (zc_so (si_goto F dX8_bag_76 rfl)
  (zc_so (si_aload_n F dX8_bag_79 rfl)
  (zc_so (si_iload F dX8_bag_80)
  (zc_so (si_iconst F dX8_bag_82 rfl)
  (zc_so (si_cV F (IH 808 mm808) mp808 (by decide) rfl rfl (by decide) tb_819 mi808 ms808 mn808 mc808 dX8_bag_83)
  (zc_so (si_cV F (IH 809 mm809) mp809 (by decide) rfl rfl (by decide) tb_888 mi809 ms809 mn809 mc809 dX8_bag_86)
  (zc_so (si_pop F dX8_bag_89)
  (zc_so (si_iinc F dX8_bag_90 rfl)
  (zc_so (si_goto F dX8_bag_93 rfl)
  (zc_so (si_aload_n F dX8_bag_96 rfl)
  (zc_so (si_iload_n F dX8_bag_97 rfl)
  (zc_so (si_cV F (IH 834 mm834) mp834 (by decide) rfl rfl (by decide) tb_941 mi834 ms834 mn834 mc834 dX8_bag_98)
  (zc_so (si_aload_n F dX8_bag_101 rfl)
  (zc_so (si_bipush F dX8_bag_102 rfl)
  (zc_so (si_cV F (IH 835 mm835) mp835 (by decide) rfl rfl (by decide) tb_929 mi835 ms835 mn835 mc835 dX8_bag_104)
  (zc_so (si_ifne F dX8_bag_107 rfl)
  (zc_so (si_iload_n F dX8_bag_110 rfl)
  (zc_so (si_goto F dX8_bag_111 rfl)
  (zc_so (si_iload_n F dX8_bag_114 rfl)
  (zc_so (si_istore_n F dX8_bag_115 rfl)
  (zc_so (si_aload_n F dX8_bag_116 rfl)
  (zc_so (si_getR (k := 1) F rfl inT8 (by decide) (by decide) rfl rfl tb_705 dX8_bag_117)
  (zc_so (si_aload_n F dX8_bag_120 rfl)
  (zc_so (si_getR (k := 0) F rfl inT8 (by decide) (by decide) rfl rfl tb_704 dX8_bag_121)
  (zc_so (si_cS  F (IH 804 mm804) mp804 (by decide) tb_797 mi804 mn804 mc804 dX8_bag_124)
  (zc_so (si_iinc F dX8_bag_127 rfl)
  (zc_nil)))))))))))))))))))))))))))))))))))
theorem sd845_2 (F : zFx p l R s m args meth c D cid kv N0 xs Ls RX8 cX8_bag 5 n0 z0 nF zE d) (IH : zAllM l D cid kv N0 xs Ls d) (hQ : ∀ v h, Qq v h → v = r0 ∧ h = hF) (hn : nF = zN hF) (hz : zE = zZ hF) (hlocks : meth.locks = false) (hr : meth.sig.returnType = (some .int)) : zSoL p l e R s m args below meth c D cid kv N0 xs Ls 5 (MQ below (zQc D cid kv N0 xs Ls ρ0 r0 hF) args s (nF - n0) (zE - z0) (zA N0)) ρ0 n0 z0 nF zE Qq (zCall d) zt845_2 := zc_so (si_goto F dX8_bag_130 rfl)
  (zc_so (si_iload_n F dX8_bag_133 rfl)
  (zc_so (si_rI F hQ hn hz hlocks hr (fun _ _ => rfl) dX8_bag_134)
  (zc_nil)))
theorem sd845 (F : zFx p l R s m args meth c D cid kv N0 xs Ls RX8 cX8_bag 5 n0 z0 nF zE d) (IH : zAllM l D cid kv N0 xs Ls d) (hQ : ∀ v h, Qq v h → v = r0 ∧ h = hF) (hn : nF = zN hF) (hz : zE = zZ hF) (hlocks : meth.locks = false) (hr : meth.sig.returnType = (some .int)) (pc : Nat) : zSo p l e R s m args below meth c D cid kv N0 xs Ls 5 (MQ below (zQc D cid kv N0 xs Ls ρ0 r0 hF) args s (nF - n0) (zE - z0) (zA N0)) ρ0 n0 z0 nF zE Qq (zCall d) pc (zTab 845 pc) := zc_tab [zt845_0, zt845_1, zt845_2] (zc_cons (sd845_0 F IH hQ hn hz hlocks hr) (zc_cons (sd845_1 F IH hQ hn hz hlocks hr) (zc_cons (sd845_2 F IH hQ hn hz hlocks hr) zc_end)))
theorem dX8_pays_0 : decode cX8_pays 0 = .ok (.iload_n 2, 1) := by decide +kernel
theorem dX8_pays_1 : decode cX8_pays 1 = .ok (.iconst 0, 1) := by decide +kernel
theorem dX8_pays_2 : decode cX8_pays 2 = .ok (.iconst 3, 1) := by decide +kernel
theorem dX8_pays_3 : decode cX8_pays 3 = .ok (.invokestatic 84, 3) := by decide +kernel
theorem dX8_pays_6 : decode cX8_pays 6 = .ok (.ifCond .ne 5, 3) := by decide +kernel
theorem dX8_pays_9 : decode cX8_pays 9 = .ok (.iconst (-1), 1) := by decide +kernel
theorem dX8_pays_10 : decode cX8_pays 10 = .ok (.ireturn, 1) := by decide +kernel
theorem dX8_pays_11 : decode cX8_pays 11 = .ok (.iload_n 1, 1) := by decide +kernel
theorem dX8_pays_12 : decode cX8_pays 12 = .ok (.iconst 1, 1) := by decide +kernel
theorem dX8_pays_13 : decode cX8_pays 13 = .ok (.bipush 20, 2) := by decide +kernel
theorem dX8_pays_15 : decode cX8_pays 15 = .ok (.invokestatic 84, 3) := by decide +kernel
theorem dX8_pays_18 : decode cX8_pays 18 = .ok (.ifCond .ne 6, 3) := by decide +kernel
theorem dX8_pays_21 : decode cX8_pays 21 = .ok (.bipush (-2), 2) := by decide +kernel
theorem dX8_pays_23 : decode cX8_pays 23 = .ok (.ireturn, 1) := by decide +kernel
theorem dX8_pays_24 : decode cX8_pays 24 = .ok (.iload_n 2, 1) := by decide +kernel
theorem dX8_pays_25 : decode cX8_pays 25 = .ok (.iconst 2, 1) := by decide +kernel
theorem dX8_pays_26 : decode cX8_pays 26 = .ok (.if_icmp .ge 21, 3) := by decide +kernel
theorem dX8_pays_29 : decode cX8_pays 29 = .ok (.aload_n 0, 1) := by decide +kernel
theorem dX8_pays_30 : decode cX8_pays 30 = .ok (.iload_n 1, 1) := by decide +kernel
theorem dX8_pays_31 : decode cX8_pays 31 = .ok (.iload_n 2, 1) := by decide +kernel
theorem dX8_pays_32 : decode cX8_pays 32 = .ok (.iconst 1, 1) := by decide +kernel
theorem dX8_pays_33 : decode cX8_pays 33 = .ok (.if_icmp .ne 7, 3) := by decide +kernel
theorem dX8_pays_36 : decode cX8_pays 36 = .ok (.iconst 1, 1) := by decide +kernel
theorem dX8_pays_37 : decode cX8_pays 37 = .ok (.goto 4, 3) := by decide +kernel
theorem dX8_pays_40 : decode cX8_pays 40 = .ok (.iconst 0, 1) := by decide +kernel
theorem dX8_pays_41 : decode cX8_pays 41 = .ok (.invokevirtual 203, 3) := by decide +kernel
theorem dX8_pays_44 : decode cX8_pays 44 = .ok (.goto 21, 3) := by decide +kernel
theorem dX8_pays_47 : decode cX8_pays 47 = .ok (.iload_n 2, 1) := by decide +kernel
theorem dX8_pays_48 : decode cX8_pays 48 = .ok (.iconst 2, 1) := by decide +kernel
theorem dX8_pays_49 : decode cX8_pays 49 = .ok (.if_icmp .ne 11, 3) := by decide +kernel
theorem dX8_pays_52 : decode cX8_pays 52 = .ok (.aload_n 0, 1) := by decide +kernel
theorem dX8_pays_53 : decode cX8_pays 53 = .ok (.iload_n 1, 1) := by decide +kernel
theorem dX8_pays_54 : decode cX8_pays 54 = .ok (.invokevirtual 207, 3) := by decide +kernel
theorem dX8_pays_57 : decode cX8_pays 57 = .ok (.goto 8, 3) := by decide +kernel
theorem dX8_pays_60 : decode cX8_pays 60 = .ok (.aload_n 0, 1) := by decide +kernel
theorem dX8_pays_61 : decode cX8_pays 61 = .ok (.iload_n 1, 1) := by decide +kernel
theorem dX8_pays_62 : decode cX8_pays 62 = .ok (.invokevirtual 210, 3) := by decide +kernel
theorem dX8_pays_65 : decode cX8_pays 65 = .ok (.ireturn, 1) := by decide +kernel
theorem sd846_0 (F : zFx p l R s m args meth c D cid kv N0 xs Ls RX8 cX8_pays 3 n0 z0 nF zE d) (IH : zAllM l D cid kv N0 xs Ls d) (hQ : ∀ v h, Qq v h → v = r0 ∧ h = hF) (hn : nF = zN hF) (hz : zE = zZ hF) (hlocks : meth.locks = false) (hr : meth.sig.returnType = (some .int)) : zSoL p l e R s m args below meth c D cid kv N0 xs Ls 3 (MQ below (zQc D cid kv N0 xs Ls ρ0 r0 hF) args s (nF - n0) (zE - z0) (zA N0)) ρ0 n0 z0 nF zE Qq (zCall d) zt846_0 := zc_so (si_iload_n F dX8_pays_0 rfl)
  (zc_so (si_iconst F dX8_pays_1 rfl)
  (zc_so (si_iconst F dX8_pays_2 rfl)
  (zc_so (si_cS  F (IH 802 mm802) mp802 (by decide) tb_808 mi802 mn802 mc802 dX8_pays_3)
  (zc_so (si_ifne F dX8_pays_6 rfl)
  (zc_so (si_iconst F dX8_pays_9 rfl)
  (zc_so (si_rI F hQ hn hz hlocks hr (fun _ _ => rfl) dX8_pays_10)
  (zc_so (si_iload_n F dX8_pays_11 rfl)
  (zc_so (si_iconst F dX8_pays_12 rfl)
  (zc_so (si_bipush F dX8_pays_13 rfl)
  (zc_so (si_cS  F (IH 802 mm802) mp802 (by decide) tb_808 mi802 mn802 mc802 dX8_pays_15)
  (zc_so (si_ifne F dX8_pays_18 rfl)
  (zc_so (si_bipush F dX8_pays_21 rfl)
  (zc_so (si_rI F hQ hn hz hlocks hr (fun _ _ => rfl) dX8_pays_23)
  (zc_so (si_iload_n F dX8_pays_24 rfl)
  (zc_so (si_iconst F dX8_pays_25 rfl)
  (zc_so (si_icge F dX8_pays_26 rfl)
  (zc_so (si_aload_n F dX8_pays_29 rfl)
  (zc_so (si_iload_n F dX8_pays_30 rfl)
  (zc_so (si_iload_n F dX8_pays_31 rfl)
  (zc_so (si_iconst F dX8_pays_32 rfl)
  (zc_so (si_icne F dX8_pays_33 rfl)
  (zc_so (si_iconst F dX8_pays_36 rfl)
  (zc_so (si_goto F dX8_pays_37 rfl)
  (zc_so (si_iconst F dX8_pays_40 rfl)
  (zc_so (si_cV F (IH 843 mm843) mp843 (by decide) rfl rfl (by decide) tb_953 mi843 ms843 mn843 mc843 dX8_pays_41)
  (zc_so (si_goto F dX8_pays_44 rfl)
  (zc_so (si_iload_n F dX8_pays_47 rfl)
  (zc_so (si_iconst F dX8_pays_48 rfl)
  (zc_so (si_icne F dX8_pays_49 rfl)
  (zc_so (si_aload_n F dX8_pays_52 rfl)
  (zc_so (si_iload_n F dX8_pays_53 rfl)
  (zc_so (si_cV F (IH 844 mm844) mp844 (by decide) rfl rfl (by decide) tb_961 mi844 ms844 mn844 mc844 dX8_pays_54)
  (zc_so (si_goto F dX8_pays_57 rfl)
  (zc_so (si_aload_n F dX8_pays_60 rfl)
  (zc_so (si_iload_n F dX8_pays_61 rfl)
  (zc_so (si_cV F (IH 845 mm845) mp845 (by decide) rfl rfl (by decide) tb_965 mi845 ms845 mn845 mc845 dX8_pays_62)
  (zc_nil)))))))))))))))))))))))))))))))))))))
theorem sd846_1 (F : zFx p l R s m args meth c D cid kv N0 xs Ls RX8 cX8_pays 3 n0 z0 nF zE d) (IH : zAllM l D cid kv N0 xs Ls d) (hQ : ∀ v h, Qq v h → v = r0 ∧ h = hF) (hn : nF = zN hF) (hz : zE = zZ hF) (hlocks : meth.locks = false) (hr : meth.sig.returnType = (some .int)) : zSoL p l e R s m args below meth c D cid kv N0 xs Ls 3 (MQ below (zQc D cid kv N0 xs Ls ρ0 r0 hF) args s (nF - n0) (zE - z0) (zA N0)) ρ0 n0 z0 nF zE Qq (zCall d) zt846_1 := zc_so (si_rI F hQ hn hz hlocks hr (fun _ _ => rfl) dX8_pays_65)
  (zc_nil)
theorem sd846 (F : zFx p l R s m args meth c D cid kv N0 xs Ls RX8 cX8_pays 3 n0 z0 nF zE d) (IH : zAllM l D cid kv N0 xs Ls d) (hQ : ∀ v h, Qq v h → v = r0 ∧ h = hF) (hn : nF = zN hF) (hz : zE = zZ hF) (hlocks : meth.locks = false) (hr : meth.sig.returnType = (some .int)) (pc : Nat) : zSo p l e R s m args below meth c D cid kv N0 xs Ls 3 (MQ below (zQc D cid kv N0 xs Ls ρ0 r0 hF) args s (nF - n0) (zE - z0) (zA N0)) ρ0 n0 z0 nF zE Qq (zCall d) pc (zTab 846 pc) := zc_tab [zt846_0, zt846_1] (zc_cons (sd846_0 F IH hQ hn hz hlocks hr) (zc_cons (sd846_1 F IH hQ hn hz hlocks hr) zc_end))
theorem dX8_see_0 : decode cX8_see 0 = .ok (.iload_n 1, 1) := by decide +kernel
theorem dX8_see_1 : decode cX8_see 1 = .ok (.iconst (-1), 1) := by decide +kernel
theorem dX8_see_2 : decode cX8_see 2 = .ok (.if_icmp .ne 13, 3) := by decide +kernel
theorem dX8_see_5 : decode cX8_see 5 = .ok (.aload_n 0, 1) := by decide +kernel
theorem dX8_see_6 : decode cX8_see 6 = .ok (.getfield 15, 3) := by decide +kernel
theorem dX8_see_9 : decode cX8_see 9 = .ok (.bipush 64, 2) := by decide +kernel
theorem dX8_see_11 : decode cX8_see 11 = .ok (.iconst 0, 1) := by decide +kernel
theorem dX8_see_12 : decode cX8_see 12 = .ok (.iastore, 1) := by decide +kernel
theorem dX8_see_13 : decode cX8_see 13 = .ok (.iconst 0, 1) := by decide +kernel
theorem dX8_see_14 : decode cX8_see 14 = .ok (.ireturn, 1) := by decide +kernel
theorem dX8_see_15 : decode cX8_see 15 = .ok (.aload_n 0, 1) := by decide +kernel
theorem dX8_see_16 : decode cX8_see 16 = .ok (.iload_n 1, 1) := by decide +kernel
theorem dX8_see_17 : decode cX8_see 17 = .ok (.invokevirtual 92, 3) := by decide +kernel
theorem dX8_see_20 : decode cX8_see 20 = .ok (.ifCond .eq 13, 3) := by decide +kernel
theorem dX8_see_23 : decode cX8_see 23 = .ok (.iload_n 3, 1) := by decide +kernel
theorem dX8_see_24 : decode cX8_see 24 = .ok (.iconst 0, 1) := by decide +kernel
theorem dX8_see_25 : decode cX8_see 25 = .ok (.bipush 10, 2) := by decide +kernel
theorem dX8_see_27 : decode cX8_see 27 = .ok (.invokestatic 84, 3) := by decide +kernel
theorem dX8_see_30 : decode cX8_see 30 = .ok (.ifCond .ne 5, 3) := by decide +kernel
theorem dX8_see_33 : decode cX8_see 33 = .ok (.iconst (-1), 1) := by decide +kernel
theorem dX8_see_34 : decode cX8_see 34 = .ok (.ireturn, 1) := by decide +kernel
theorem dX8_see_35 : decode cX8_see 35 = .ok (.iload_n 2, 1) := by decide +kernel
theorem dX8_see_36 : decode cX8_see 36 = .ok (.iconst 0, 1) := by decide +kernel
theorem dX8_see_37 : decode cX8_see 37 = .ok (.bipush 12, 2) := by decide +kernel
theorem dX8_see_39 : decode cX8_see 39 = .ok (.invokestatic 84, 3) := by decide +kernel
theorem dX8_see_42 : decode cX8_see 42 = .ok (.ifCond .ne 6, 3) := by decide +kernel
theorem dX8_see_45 : decode cX8_see 45 = .ok (.bipush (-2), 2) := by decide +kernel
theorem dX8_see_47 : decode cX8_see 47 = .ok (.ireturn, 1) := by decide +kernel
theorem dX8_see_48 : decode cX8_see 48 = .ok (.aload_n 0, 1) := by decide +kernel
theorem dX8_see_49 : decode cX8_see 49 = .ok (.getfield 15, 3) := by decide +kernel
theorem dX8_see_52 : decode cX8_see 52 = .ok (.bipush 64, 2) := by decide +kernel
theorem dX8_see_54 : decode cX8_see 54 = .ok (.iaload, 1) := by decide +kernel
theorem dX8_see_55 : decode cX8_see 55 = .ok (.iconst 5, 1) := by decide +kernel
theorem dX8_see_56 : decode cX8_see 56 = .ok (.if_icmp .ne 6, 3) := by decide +kernel
theorem dX8_see_59 : decode cX8_see 59 = .ok (.bipush (-4), 2) := by decide +kernel
theorem dX8_see_61 : decode cX8_see 61 = .ok (.ireturn, 1) := by decide +kernel
theorem dX8_see_62 : decode cX8_see 62 = .ok (.bipush 65, 2) := by decide +kernel
theorem dX8_see_64 : decode cX8_see 64 = .ok (.iconst 3, 1) := by decide +kernel
theorem dX8_see_65 : decode cX8_see 65 = .ok (.aload_n 0, 1) := by decide +kernel
theorem dX8_see_66 : decode cX8_see 66 = .ok (.getfield 15, 3) := by decide +kernel
theorem dX8_see_69 : decode cX8_see 69 = .ok (.bipush 64, 2) := by decide +kernel
theorem dX8_see_71 : decode cX8_see 71 = .ok (.iaload, 1) := by decide +kernel
theorem dX8_see_72 : decode cX8_see 72 = .ok (.imul, 1) := by decide +kernel
theorem dX8_see_73 : decode cX8_see 73 = .ok (.iadd, 1) := by decide +kernel
theorem dX8_see_74 : decode cX8_see 74 = .ok (.istore 4, 2) := by decide +kernel
theorem dX8_see_76 : decode cX8_see 76 = .ok (.aload_n 0, 1) := by decide +kernel
theorem dX8_see_77 : decode cX8_see 77 = .ok (.getfield 15, 3) := by decide +kernel
theorem dX8_see_80 : decode cX8_see 80 = .ok (.iload 4, 2) := by decide +kernel
theorem dX8_see_82 : decode cX8_see 82 = .ok (.iload_n 1, 1) := by decide +kernel
theorem dX8_see_83 : decode cX8_see 83 = .ok (.iastore, 1) := by decide +kernel
theorem dX8_see_84 : decode cX8_see 84 = .ok (.aload_n 0, 1) := by decide +kernel
theorem dX8_see_85 : decode cX8_see 85 = .ok (.getfield 15, 3) := by decide +kernel
theorem dX8_see_88 : decode cX8_see 88 = .ok (.iload 4, 2) := by decide +kernel
theorem dX8_see_90 : decode cX8_see 90 = .ok (.iconst 1, 1) := by decide +kernel
theorem dX8_see_91 : decode cX8_see 91 = .ok (.iadd, 1) := by decide +kernel
theorem dX8_see_92 : decode cX8_see 92 = .ok (.iload_n 2, 1) := by decide +kernel
theorem dX8_see_93 : decode cX8_see 93 = .ok (.iastore, 1) := by decide +kernel
theorem dX8_see_94 : decode cX8_see 94 = .ok (.aload_n 0, 1) := by decide +kernel
theorem dX8_see_95 : decode cX8_see 95 = .ok (.getfield 15, 3) := by decide +kernel
theorem dX8_see_98 : decode cX8_see 98 = .ok (.iload 4, 2) := by decide +kernel
theorem dX8_see_100 : decode cX8_see 100 = .ok (.iconst 2, 1) := by decide +kernel
theorem dX8_see_101 : decode cX8_see 101 = .ok (.iadd, 1) := by decide +kernel
theorem dX8_see_102 : decode cX8_see 102 = .ok (.iload_n 3, 1) := by decide +kernel
theorem dX8_see_103 : decode cX8_see 103 = .ok (.iastore, 1) := by decide +kernel
theorem dX8_see_104 : decode cX8_see 104 = .ok (.aload_n 0, 1) := by decide +kernel
theorem dX8_see_105 : decode cX8_see 105 = .ok (.getfield 15, 3) := by decide +kernel
theorem dX8_see_108 : decode cX8_see 108 = .ok (.bipush 64, 2) := by decide +kernel
theorem dX8_see_110 : decode cX8_see 110 = .ok (.dup2, 1) := by decide +kernel
theorem dX8_see_111 : decode cX8_see 111 = .ok (.iaload, 1) := by decide +kernel
theorem dX8_see_112 : decode cX8_see 112 = .ok (.iconst 1, 1) := by decide +kernel
theorem dX8_see_113 : decode cX8_see 113 = .ok (.iadd, 1) := by decide +kernel
theorem dX8_see_114 : decode cX8_see 114 = .ok (.iastore, 1) := by decide +kernel
theorem dX8_see_115 : decode cX8_see 115 = .ok (.aload_n 0, 1) := by decide +kernel
theorem dX8_see_116 : decode cX8_see 116 = .ok (.getfield 15, 3) := by decide +kernel
theorem dX8_see_119 : decode cX8_see 119 = .ok (.bipush 64, 2) := by decide +kernel
theorem dX8_see_121 : decode cX8_see 121 = .ok (.iaload, 1) := by decide +kernel
theorem dX8_see_122 : decode cX8_see 122 = .ok (.ireturn, 1) := by decide +kernel
theorem sd847_0 (F : zFx p l R s m args meth c D cid kv N0 xs Ls RX8 cX8_see 5 n0 z0 nF zE d) (IH : zAllM l D cid kv N0 xs Ls d) (hQ : ∀ v h, Qq v h → v = r0 ∧ h = hF) (hn : nF = zN hF) (hz : zE = zZ hF) (hlocks : meth.locks = false) (hr : meth.sig.returnType = (some .int)) : zSoL p l e R s m args below meth c D cid kv N0 xs Ls 5 (MQ below (zQc D cid kv N0 xs Ls ρ0 r0 hF) args s (nF - n0) (zE - z0) (zA N0)) ρ0 n0 z0 nF zE Qq (zCall d) zt847_0 := zc_so (si_iload_n F dX8_see_0 rfl)
  (zc_so (si_iconst F dX8_see_1 rfl)
  (zc_so (si_icne F dX8_see_2 rfl)
  (zc_so (si_aload_n F dX8_see_5 rfl)
  (zc_so (si_getR (k := 0) F rfl inT8 (by decide) (by decide) rfl rfl tb_704 dX8_see_6)
  (zc_so (si_bipush F dX8_see_9 rfl)
  (zc_so (si_iconst F dX8_see_11 rfl)
  (zc_so (si_iastore F dX8_see_12)
  (zc_so (si_iconst F dX8_see_13 rfl)
  (zc_so (si_rI F hQ hn hz hlocks hr (fun _ _ => rfl) dX8_see_14)
  (zc_so (si_aload_n F dX8_see_15 rfl)
  (zc_so (si_iload_n F dX8_see_16 rfl)
  (zc_so (si_cV F (IH 807 mm807) mp807 (by decide) rfl rfl (by decide) tb_815 mi807 ms807 mn807 mc807 dX8_see_17)
  (zc_so (si_ifeq F dX8_see_20 rfl)
  (zc_so (si_iload_n F dX8_see_23 rfl)
  (zc_so (si_iconst F dX8_see_24 rfl)
  (zc_so (si_bipush F dX8_see_25 rfl)
  (zc_so (si_cS  F (IH 802 mm802) mp802 (by decide) tb_808 mi802 mn802 mc802 dX8_see_27)
  (zc_so (si_ifne F dX8_see_30 rfl)
  (zc_so (si_iconst F dX8_see_33 rfl)
  (zc_so (si_rI F hQ hn hz hlocks hr (fun _ _ => rfl) dX8_see_34)
  (zc_so (si_iload_n F dX8_see_35 rfl)
  (zc_so (si_iconst F dX8_see_36 rfl)
  (zc_so (si_bipush F dX8_see_37 rfl)
  (zc_so (si_cS  F (IH 802 mm802) mp802 (by decide) tb_808 mi802 mn802 mc802 dX8_see_39)
  (zc_so (si_ifne F dX8_see_42 rfl)
  (zc_so (si_bipush F dX8_see_45 rfl)
  (zc_so (si_rI F hQ hn hz hlocks hr (fun _ _ => rfl) dX8_see_47)
  (zc_so (si_aload_n F dX8_see_48 rfl)
  (zc_so (si_getR (k := 0) F rfl inT8 (by decide) (by decide) rfl rfl tb_704 dX8_see_49)
  (zc_so (si_bipush F dX8_see_52 rfl)
  (zc_so (si_iaload F dX8_see_54)
  (zc_so (si_iconst F dX8_see_55 rfl)
  (zc_so (si_icne F dX8_see_56 rfl)
  (zc_so (si_bipush F dX8_see_59 rfl)
  (zc_so (si_rI F hQ hn hz hlocks hr (fun _ _ => rfl) dX8_see_61)
  (zc_so (si_bipush F dX8_see_62 rfl)
  (zc_nil)))))))))))))))))))))))))))))))))))))
theorem sd847_1 (F : zFx p l R s m args meth c D cid kv N0 xs Ls RX8 cX8_see 5 n0 z0 nF zE d) (IH : zAllM l D cid kv N0 xs Ls d) (hQ : ∀ v h, Qq v h → v = r0 ∧ h = hF) (hn : nF = zN hF) (hz : zE = zZ hF) (hlocks : meth.locks = false) (hr : meth.sig.returnType = (some .int)) : zSoL p l e R s m args below meth c D cid kv N0 xs Ls 5 (MQ below (zQc D cid kv N0 xs Ls ρ0 r0 hF) args s (nF - n0) (zE - z0) (zA N0)) ρ0 n0 z0 nF zE Qq (zCall d) zt847_1 := zc_so (si_iconst F dX8_see_64 rfl)
  (zc_so (si_aload_n F dX8_see_65 rfl)
  (zc_so (si_getR (k := 0) F rfl inT8 (by decide) (by decide) rfl rfl tb_704 dX8_see_66)
  (zc_so (si_bipush F dX8_see_69 rfl)
  (zc_so (si_iaload F dX8_see_71)
  (zc_so (si_imul F dX8_see_72)
  (zc_so (si_iadd F dX8_see_73)
  (zc_so (si_istore F dX8_see_74)
  (zc_so (si_aload_n F dX8_see_76 rfl)
  (zc_so (si_getR (k := 0) F rfl inT8 (by decide) (by decide) rfl rfl tb_704 dX8_see_77)
  (zc_so (si_iload F dX8_see_80)
  (zc_so (si_iload_n F dX8_see_82 rfl)
  (zc_so (si_iastore F dX8_see_83)
  (zc_so (si_aload_n F dX8_see_84 rfl)
  (zc_so (si_getR (k := 0) F rfl inT8 (by decide) (by decide) rfl rfl tb_704 dX8_see_85)
  (zc_so (si_iload F dX8_see_88)
  (zc_so (si_iconst F dX8_see_90 rfl)
  (zc_so (si_iadd F dX8_see_91)
  (zc_so (si_iload_n F dX8_see_92 rfl)
  (zc_so (si_iastore F dX8_see_93)
  (zc_so (si_aload_n F dX8_see_94 rfl)
  (zc_so (si_getR (k := 0) F rfl inT8 (by decide) (by decide) rfl rfl tb_704 dX8_see_95)
  (zc_so (si_iload F dX8_see_98)
  (zc_so (si_iconst F dX8_see_100 rfl)
  (zc_so (si_iadd F dX8_see_101)
  (zc_so (si_iload_n F dX8_see_102 rfl)
  (zc_so (si_iastore F dX8_see_103)
  (zc_so (si_aload_n F dX8_see_104 rfl)
  (zc_so (si_getR (k := 0) F rfl inT8 (by decide) (by decide) rfl rfl tb_704 dX8_see_105)
  (zc_so (si_bipush F dX8_see_108 rfl)
  (zc_so (si_dup2 F dX8_see_110)
  (zc_so (si_iaload F dX8_see_111)
  (zc_so (si_iconst F dX8_see_112 rfl)
  (zc_so (si_iadd F dX8_see_113)
  (zc_so (si_iastore F dX8_see_114)
  (zc_so (si_aload_n F dX8_see_115 rfl)
  (zc_so (si_getR (k := 0) F rfl inT8 (by decide) (by decide) rfl rfl tb_704 dX8_see_116)
  (zc_so (si_bipush F dX8_see_119 rfl)
  (zc_so (si_iaload F dX8_see_121)
  (zc_so (si_rI F hQ hn hz hlocks hr (fun _ _ => rfl) dX8_see_122)
  (zc_nil))))))))))))))))))))))))))))))))))))))))
theorem sd847 (F : zFx p l R s m args meth c D cid kv N0 xs Ls RX8 cX8_see 5 n0 z0 nF zE d) (IH : zAllM l D cid kv N0 xs Ls d) (hQ : ∀ v h, Qq v h → v = r0 ∧ h = hF) (hn : nF = zN hF) (hz : zE = zZ hF) (hlocks : meth.locks = false) (hr : meth.sig.returnType = (some .int)) (pc : Nat) : zSo p l e R s m args below meth c D cid kv N0 xs Ls 5 (MQ below (zQc D cid kv N0 xs Ls ρ0 r0 hF) args s (nF - n0) (zE - z0) (zA N0)) ρ0 n0 z0 nF zE Qq (zCall d) pc (zTab 847 pc) := zc_tab [zt847_0, zt847_1] (zc_cons (sd847_0 F IH hQ hn hz hlocks hr) (zc_cons (sd847_1 F IH hQ hn hz hlocks hr) zc_end))
theorem dX8_isAllSeen_0 : decode cX8_isAllSeen 0 = .ok (.aload_n 0, 1) := by decide +kernel
theorem dX8_isAllSeen_1 : decode cX8_isAllSeen 1 = .ok (.getfield 15, 3) := by decide +kernel
theorem dX8_isAllSeen_4 : decode cX8_isAllSeen 4 = .ok (.aload_n 0, 1) := by decide +kernel
theorem dX8_isAllSeen_5 : decode cX8_isAllSeen 5 = .ok (.getfield 19, 3) := by decide +kernel
theorem dX8_isAllSeen_8 : decode cX8_isAllSeen 8 = .ok (.invokestatic 80, 3) := by decide +kernel
theorem dX8_isAllSeen_11 : decode cX8_isAllSeen 11 = .ok (.iconst 1, 1) := by decide +kernel
theorem dX8_isAllSeen_12 : decode cX8_isAllSeen 12 = .ok (.istore_n 1, 1) := by decide +kernel
theorem dX8_isAllSeen_13 : decode cX8_isAllSeen 13 = .ok (.iconst 0, 1) := by decide +kernel
theorem dX8_isAllSeen_14 : decode cX8_isAllSeen 14 = .ok (.istore_n 2, 1) := by decide +kernel
theorem dX8_isAllSeen_15 : decode cX8_isAllSeen 15 = .ok (.iload_n 2, 1) := by decide +kernel
theorem dX8_isAllSeen_16 : decode cX8_isAllSeen 16 = .ok (.bipush 12, 2) := by decide +kernel
theorem dX8_isAllSeen_18 : decode cX8_isAllSeen 18 = .ok (.if_icmp .gt 91, 3) := by decide +kernel
theorem dX8_isAllSeen_21 : decode cX8_isAllSeen 21 = .ok (.iload_n 1, 1) := by decide +kernel
theorem dX8_isAllSeen_22 : decode cX8_isAllSeen 22 = .ok (.ifCond .eq 87, 3) := by decide +kernel
theorem dX8_isAllSeen_25 : decode cX8_isAllSeen 25 = .ok (.iconst 0, 1) := by decide +kernel
theorem dX8_isAllSeen_26 : decode cX8_isAllSeen 26 = .ok (.istore_n 3, 1) := by decide +kernel
theorem dX8_isAllSeen_27 : decode cX8_isAllSeen 27 = .ok (.iload_n 3, 1) := by decide +kernel
theorem dX8_isAllSeen_28 : decode cX8_isAllSeen 28 = .ok (.aload_n 0, 1) := by decide +kernel
theorem dX8_isAllSeen_29 : decode cX8_isAllSeen 29 = .ok (.getfield 15, 3) := by decide +kernel
theorem dX8_isAllSeen_32 : decode cX8_isAllSeen 32 = .ok (.bipush 64, 2) := by decide +kernel
theorem dX8_isAllSeen_34 : decode cX8_isAllSeen 34 = .ok (.iaload, 1) := by decide +kernel
theorem dX8_isAllSeen_35 : decode cX8_isAllSeen 35 = .ok (.if_icmp .ge 64, 3) := by decide +kernel
theorem dX8_isAllSeen_38 : decode cX8_isAllSeen 38 = .ok (.bipush 65, 2) := by decide +kernel
theorem dX8_isAllSeen_40 : decode cX8_isAllSeen 40 = .ok (.iconst 3, 1) := by decide +kernel
theorem dX8_isAllSeen_41 : decode cX8_isAllSeen 41 = .ok (.iload_n 3, 1) := by decide +kernel
theorem dX8_isAllSeen_42 : decode cX8_isAllSeen 42 = .ok (.imul, 1) := by decide +kernel
theorem dX8_isAllSeen_43 : decode cX8_isAllSeen 43 = .ok (.iadd, 1) := by decide +kernel
theorem dX8_isAllSeen_44 : decode cX8_isAllSeen 44 = .ok (.istore 4, 2) := by decide +kernel
theorem dX8_isAllSeen_46 : decode cX8_isAllSeen 46 = .ok (.iload_n 1, 1) := by decide +kernel
theorem dX8_isAllSeen_47 : decode cX8_isAllSeen 47 = .ok (.ifCond .eq 44, 3) := by decide +kernel
theorem dX8_isAllSeen_50 : decode cX8_isAllSeen 50 = .ok (.aload_n 0, 1) := by decide +kernel
theorem dX8_isAllSeen_51 : decode cX8_isAllSeen 51 = .ok (.getfield 15, 3) := by decide +kernel
theorem dX8_isAllSeen_54 : decode cX8_isAllSeen 54 = .ok (.iload 4, 2) := by decide +kernel
theorem dX8_isAllSeen_56 : decode cX8_isAllSeen 56 = .ok (.iconst 1, 1) := by decide +kernel
theorem dX8_isAllSeen_57 : decode cX8_isAllSeen 57 = .ok (.iadd, 1) := by decide +kernel
theorem dX8_isAllSeen_58 : decode cX8_isAllSeen 58 = .ok (.iaload, 1) := by decide +kernel
theorem dX8_isAllSeen_59 : decode cX8_isAllSeen 59 = .ok (.iload_n 2, 1) := by decide +kernel
theorem dX8_isAllSeen_60 : decode cX8_isAllSeen 60 = .ok (.if_icmp .ne 27, 3) := by decide +kernel
theorem dX8_isAllSeen_63 : decode cX8_isAllSeen 63 = .ok (.aload_n 0, 1) := by decide +kernel
theorem dX8_isAllSeen_64 : decode cX8_isAllSeen 64 = .ok (.aload_n 0, 1) := by decide +kernel
theorem dX8_isAllSeen_65 : decode cX8_isAllSeen 65 = .ok (.getfield 15, 3) := by decide +kernel
theorem dX8_isAllSeen_68 : decode cX8_isAllSeen 68 = .ok (.iload 4, 2) := by decide +kernel
theorem dX8_isAllSeen_70 : decode cX8_isAllSeen 70 = .ok (.iaload, 1) := by decide +kernel
theorem dX8_isAllSeen_71 : decode cX8_isAllSeen 71 = .ok (.iconst 3, 1) := by decide +kernel
theorem dX8_isAllSeen_72 : decode cX8_isAllSeen 72 = .ok (.invokevirtual 88, 3) := by decide +kernel
theorem dX8_isAllSeen_75 : decode cX8_isAllSeen 75 = .ok (.aload_n 0, 1) := by decide +kernel
theorem dX8_isAllSeen_76 : decode cX8_isAllSeen 76 = .ok (.getfield 15, 3) := by decide +kernel
theorem dX8_isAllSeen_79 : decode cX8_isAllSeen 79 = .ok (.iload 4, 2) := by decide +kernel
theorem dX8_isAllSeen_81 : decode cX8_isAllSeen 81 = .ok (.iconst 2, 1) := by decide +kernel
theorem dX8_isAllSeen_82 : decode cX8_isAllSeen 82 = .ok (.iadd, 1) := by decide +kernel
theorem dX8_isAllSeen_83 : decode cX8_isAllSeen 83 = .ok (.iaload, 1) := by decide +kernel
theorem dX8_isAllSeen_84 : decode cX8_isAllSeen 84 = .ok (.if_icmp .ne 7, 3) := by decide +kernel
theorem dX8_isAllSeen_87 : decode cX8_isAllSeen 87 = .ok (.iconst 1, 1) := by decide +kernel
theorem dX8_isAllSeen_88 : decode cX8_isAllSeen 88 = .ok (.goto 4, 3) := by decide +kernel
theorem dX8_isAllSeen_91 : decode cX8_isAllSeen 91 = .ok (.iconst 0, 1) := by decide +kernel
theorem dX8_isAllSeen_92 : decode cX8_isAllSeen 92 = .ok (.istore_n 1, 1) := by decide +kernel
theorem dX8_isAllSeen_93 : decode cX8_isAllSeen 93 = .ok (.iinc 3 1, 3) := by decide +kernel
theorem dX8_isAllSeen_96 : decode cX8_isAllSeen 96 = .ok (.goto (-69), 3) := by decide +kernel
theorem dX8_isAllSeen_99 : decode cX8_isAllSeen 99 = .ok (.aload_n 0, 1) := by decide +kernel
theorem dX8_isAllSeen_100 : decode cX8_isAllSeen 100 = .ok (.invokevirtual 182, 3) := by decide +kernel
theorem dX8_isAllSeen_103 : decode cX8_isAllSeen 103 = .ok (.iinc 2 1, 3) := by decide +kernel
theorem dX8_isAllSeen_106 : decode cX8_isAllSeen 106 = .ok (.goto (-91), 3) := by decide +kernel
theorem dX8_isAllSeen_109 : decode cX8_isAllSeen 109 = .ok (.aload_n 0, 1) := by decide +kernel
theorem dX8_isAllSeen_110 : decode cX8_isAllSeen 110 = .ok (.getfield 19, 3) := by decide +kernel
theorem dX8_isAllSeen_113 : decode cX8_isAllSeen 113 = .ok (.aload_n 0, 1) := by decide +kernel
theorem dX8_isAllSeen_114 : decode cX8_isAllSeen 114 = .ok (.getfield 15, 3) := by decide +kernel
theorem dX8_isAllSeen_117 : decode cX8_isAllSeen 117 = .ok (.invokestatic 80, 3) := by decide +kernel
theorem dX8_isAllSeen_120 : decode cX8_isAllSeen 120 = .ok (.iload_n 1, 1) := by decide +kernel
theorem dX8_isAllSeen_121 : decode cX8_isAllSeen 121 = .ok (.ireturn, 1) := by decide +kernel
theorem sd848_0 (F : zFx p l R s m args meth c D cid kv N0 xs Ls RX8 cX8_isAllSeen 5 n0 z0 nF zE d) (IH : zAllM l D cid kv N0 xs Ls d) (hQ : ∀ v h, Qq v h → v = r0 ∧ h = hF) (hn : nF = zN hF) (hz : zE = zZ hF) (hlocks : meth.locks = false) (hr : meth.sig.returnType = (some .boolean)) : zSoL p l e R s m args below meth c D cid kv N0 xs Ls 5 (MQ below (zQc D cid kv N0 xs Ls ρ0 r0 hF) args s (nF - n0) (zE - z0) (zA N0)) ρ0 n0 z0 nF zE Qq (zCall d) zt848_0 := zc_so (si_aload_n F dX8_isAllSeen_0 rfl)
  (zc_so (si_getR (k := 0) F rfl inT8 (by decide) (by decide) rfl rfl tb_704 dX8_isAllSeen_1)
  (zc_so (si_aload_n F dX8_isAllSeen_4 rfl)
  (zc_so (si_getR (k := 1) F rfl inT8 (by decide) (by decide) rfl rfl tb_705 dX8_isAllSeen_5)
  (zc_so (si_cS  F (IH 804 mm804) mp804 (by decide) tb_797 mi804 mn804 mc804 dX8_isAllSeen_8)
  (zc_so (si_iconst F dX8_isAllSeen_11 rfl)
  (zc_so (si_istore_n F dX8_isAllSeen_12 rfl)
  (zc_so (si_iconst F dX8_isAllSeen_13 rfl)
  (zc_so (si_istore_n F dX8_isAllSeen_14 rfl)
  (zc_so (si_iload_n F dX8_isAllSeen_15 rfl)
  (zc_so (si_bipush F dX8_isAllSeen_16 rfl)
  (zc_so (si_icgt F dX8_isAllSeen_18 rfl)
  (zc_so (si_iload_n F dX8_isAllSeen_21 rfl)
  (zc_so (si_ifeq F dX8_isAllSeen_22 rfl)
  (zc_so (si_iconst F dX8_isAllSeen_25 rfl)
  (zc_so (si_istore_n F dX8_isAllSeen_26 rfl)
  (zc_so (si_iload_n F dX8_isAllSeen_27 rfl)
  (zc_so (si_aload_n F dX8_isAllSeen_28 rfl)
  (zc_so (si_getR (k := 0) F rfl inT8 (by decide) (by decide) rfl rfl tb_704 dX8_isAllSeen_29)
  (zc_so (si_bipush F dX8_isAllSeen_32 rfl)
  (zc_so (si_iaload F dX8_isAllSeen_34)
  (zc_so (si_icge F dX8_isAllSeen_35 rfl)
  (zc_so (si_bipush F dX8_isAllSeen_38 rfl)
  (zc_so (si_iconst F dX8_isAllSeen_40 rfl)
  (zc_so (si_iload_n F dX8_isAllSeen_41 rfl)
  (zc_so (si_imul F dX8_isAllSeen_42)
  (zc_so (si_iadd F dX8_isAllSeen_43)
  (zc_so (si_istore F dX8_isAllSeen_44)
  (zc_so (si_iload_n F dX8_isAllSeen_46 rfl)
  (zc_so (si_ifeq F dX8_isAllSeen_47 rfl)
  (zc_so (si_aload_n F dX8_isAllSeen_50 rfl)
  (zc_so (si_getR (k := 0) F rfl inT8 (by decide) (by decide) rfl rfl tb_704 dX8_isAllSeen_51)
  (zc_so (si_iload F dX8_isAllSeen_54)
  (zc_so (si_iconst F dX8_isAllSeen_56 rfl)
  (zc_so (si_iadd F dX8_isAllSeen_57)
  (zc_so (si_iaload F dX8_isAllSeen_58)
  (zc_so (si_iload_n F dX8_isAllSeen_59 rfl)
  (zc_so (si_icne F dX8_isAllSeen_60 rfl)
  (zc_so (si_aload_n F dX8_isAllSeen_63 rfl)
  (zc_nil)))))))))))))))))))))))))))))))))))))))
theorem sd848_1 (F : zFx p l R s m args meth c D cid kv N0 xs Ls RX8 cX8_isAllSeen 5 n0 z0 nF zE d) (IH : zAllM l D cid kv N0 xs Ls d) (hQ : ∀ v h, Qq v h → v = r0 ∧ h = hF) (hn : nF = zN hF) (hz : zE = zZ hF) (hlocks : meth.locks = false) (hr : meth.sig.returnType = (some .boolean)) : zSoL p l e R s m args below meth c D cid kv N0 xs Ls 5 (MQ below (zQc D cid kv N0 xs Ls ρ0 r0 hF) args s (nF - n0) (zE - z0) (zA N0)) ρ0 n0 z0 nF zE Qq (zCall d) zt848_1 := zc_so (si_aload_n F dX8_isAllSeen_64 rfl)
  (zc_so (si_getR (k := 0) F rfl inT8 (by decide) (by decide) rfl rfl tb_704 dX8_isAllSeen_65)
  (zc_so (si_iload F dX8_isAllSeen_68)
  (zc_so (si_iaload F dX8_isAllSeen_70)
  (zc_so (si_iconst F dX8_isAllSeen_71 rfl)
  (zc_so (si_cV F (IH 808 mm808) mp808 (by decide) rfl rfl (by decide) tb_819 mi808 ms808 mn808 mc808 dX8_isAllSeen_72)
  (zc_so (si_aload_n F dX8_isAllSeen_75 rfl)
  (zc_so (si_getR (k := 0) F rfl inT8 (by decide) (by decide) rfl rfl tb_704 dX8_isAllSeen_76)
  (zc_so (si_iload F dX8_isAllSeen_79)
  (zc_so (si_iconst F dX8_isAllSeen_81 rfl)
  (zc_so (si_iadd F dX8_isAllSeen_82)
  (zc_so (si_iaload F dX8_isAllSeen_83)
  (zc_so (si_icne F dX8_isAllSeen_84 rfl)
  (zc_so (si_iconst F dX8_isAllSeen_87 rfl)
  (zc_so (si_goto F dX8_isAllSeen_88 rfl)
  (zc_so (si_iconst F dX8_isAllSeen_91 rfl)
  (zc_so (si_istore_n F dX8_isAllSeen_92 rfl)
  (zc_so (si_iinc F dX8_isAllSeen_93 rfl)
  (zc_so (si_goto F dX8_isAllSeen_96 rfl)
  (zc_so (si_aload_n F dX8_isAllSeen_99 rfl)
  (zc_so (si_cV F (IH 833 mm833) mp833 (by decide) rfl rfl (by decide) tb_880 mi833 ms833 mn833 mc833 dX8_isAllSeen_100)
  (zc_so (si_iinc F dX8_isAllSeen_103 rfl)
  (zc_so (si_goto F dX8_isAllSeen_106 rfl)
  (zc_so (si_aload_n F dX8_isAllSeen_109 rfl)
  (zc_so (si_getR (k := 1) F rfl inT8 (by decide) (by decide) rfl rfl tb_705 dX8_isAllSeen_110)
  (zc_so (si_aload_n F dX8_isAllSeen_113 rfl)
  (zc_so (si_getR (k := 0) F rfl inT8 (by decide) (by decide) rfl rfl tb_704 dX8_isAllSeen_114)
  (zc_so (si_cS  F (IH 804 mm804) mp804 (by decide) tb_797 mi804 mn804 mc804 dX8_isAllSeen_117)
  (zc_so (si_iload_n F dX8_isAllSeen_120 rfl)
  (zc_so (si_rI F hQ hn hz hlocks hr (fun x h => by rcases h with rfl | rfl <;> rfl) dX8_isAllSeen_121)
  (zc_nil))))))))))))))))))))))))))))))
theorem sd848 (F : zFx p l R s m args meth c D cid kv N0 xs Ls RX8 cX8_isAllSeen 5 n0 z0 nF zE d) (IH : zAllM l D cid kv N0 xs Ls d) (hQ : ∀ v h, Qq v h → v = r0 ∧ h = hF) (hn : nF = zN hF) (hz : zE = zZ hF) (hlocks : meth.locks = false) (hr : meth.sig.returnType = (some .boolean)) (pc : Nat) : zSo p l e R s m args below meth c D cid kv N0 xs Ls 5 (MQ below (zQc D cid kv N0 xs Ls ρ0 r0 hF) args s (nF - n0) (zE - z0) (zA N0)) ρ0 n0 z0 nF zE Qq (zCall d) pc (zTab 848 pc) := zc_tab [zt848_0, zt848_1] (zc_cons (sd848_0 F IH hQ hn hz hlocks hr) (zc_cons (sd848_1 F IH hQ hn hz hlocks hr) zc_end))
theorem dX8_fits_0 : decode cX8_fits 0 = .ok (.aload_n 0, 1) := by decide +kernel
theorem dX8_fits_1 : decode cX8_fits 1 = .ok (.iload_n 1, 1) := by decide +kernel
theorem dX8_fits_2 : decode cX8_fits 2 = .ok (.iload_n 2, 1) := by decide +kernel
theorem dX8_fits_3 : decode cX8_fits 3 = .ok (.invokevirtual 88, 3) := by decide +kernel
theorem dX8_fits_6 : decode cX8_fits 6 = .ok (.istore 5, 2) := by decide +kernel
theorem dX8_fits_8 : decode cX8_fits 8 = .ok (.iconst 0, 1) := by decide +kernel
theorem dX8_fits_9 : decode cX8_fits 9 = .ok (.istore 6, 2) := by decide +kernel
theorem dX8_fits_11 : decode cX8_fits 11 = .ok (.bipush (-5), 2) := by decide +kernel
theorem dX8_fits_13 : decode cX8_fits 13 = .ok (.istore 7, 2) := by decide +kernel
theorem dX8_fits_15 : decode cX8_fits 15 = .ok (.iload_n 3, 1) := by decide +kernel
theorem dX8_fits_16 : decode cX8_fits 16 = .ok (.istore 8, 2) := by decide +kernel
theorem dX8_fits_18 : decode cX8_fits 18 = .ok (.iload 8, 2) := by decide +kernel
theorem dX8_fits_20 : decode cX8_fits 20 = .ok (.ifCond .lt 53, 3) := by decide +kernel
theorem dX8_fits_23 : decode cX8_fits 23 = .ok (.aload_n 0, 1) := by decide +kernel
theorem dX8_fits_24 : decode cX8_fits 24 = .ok (.iload_n 1, 1) := by decide +kernel
theorem dX8_fits_25 : decode cX8_fits 25 = .ok (.iload_n 2, 1) := by decide +kernel
theorem dX8_fits_26 : decode cX8_fits 26 = .ok (.iload 8, 2) := by decide +kernel
theorem dX8_fits_28 : decode cX8_fits 28 = .ok (.invokevirtual 103, 3) := by decide +kernel
theorem dX8_fits_31 : decode cX8_fits 31 = .ok (.pop, 1) := by decide +kernel
theorem dX8_fits_32 : decode cX8_fits 32 = .ok (.aload_n 0, 1) := by decide +kernel
theorem dX8_fits_33 : decode cX8_fits 33 = .ok (.invokevirtual 213, 3) := by decide +kernel
theorem dX8_fits_36 : decode cX8_fits 36 = .ok (.istore 9, 2) := by decide +kernel
theorem dX8_fits_38 : decode cX8_fits 38 = .ok (.iload 6, 2) := by decide +kernel
theorem dX8_fits_40 : decode cX8_fits 40 = .ok (.iload 9, 2) := by decide +kernel
theorem dX8_fits_42 : decode cX8_fits 42 = .ok (.ifCond .eq 7, 3) := by decide +kernel
theorem dX8_fits_45 : decode cX8_fits 45 = .ok (.iconst 1, 1) := by decide +kernel
theorem dX8_fits_46 : decode cX8_fits 46 = .ok (.goto 4, 3) := by decide +kernel
theorem dX8_fits_49 : decode cX8_fits 49 = .ok (.iconst 0, 1) := by decide +kernel
theorem dX8_fits_50 : decode cX8_fits 50 = .ok (.iadd, 1) := by decide +kernel
theorem dX8_fits_51 : decode cX8_fits 51 = .ok (.istore 6, 2) := by decide +kernel
theorem dX8_fits_53 : decode cX8_fits 53 = .ok (.iload 9, 2) := by decide +kernel
theorem dX8_fits_55 : decode cX8_fits 55 = .ok (.ifCond .eq 8, 3) := by decide +kernel
theorem dX8_fits_58 : decode cX8_fits 58 = .ok (.iload 8, 2) := by decide +kernel
theorem dX8_fits_60 : decode cX8_fits 60 = .ok (.goto 5, 3) := by decide +kernel
theorem dX8_fits_63 : decode cX8_fits 63 = .ok (.iload 7, 2) := by decide +kernel
theorem dX8_fits_65 : decode cX8_fits 65 = .ok (.istore 7, 2) := by decide +kernel
theorem dX8_fits_67 : decode cX8_fits 67 = .ok (.iinc 8 (-1), 3) := by decide +kernel
theorem dX8_fits_70 : decode cX8_fits 70 = .ok (.goto (-52), 3) := by decide +kernel
theorem dX8_fits_73 : decode cX8_fits 73 = .ok (.aload_n 0, 1) := by decide +kernel
theorem dX8_fits_74 : decode cX8_fits 74 = .ok (.iload_n 1, 1) := by decide +kernel
theorem dX8_fits_75 : decode cX8_fits 75 = .ok (.iload_n 2, 1) := by decide +kernel
theorem dX8_fits_76 : decode cX8_fits 76 = .ok (.iload 5, 2) := by decide +kernel
theorem dX8_fits_78 : decode cX8_fits 78 = .ok (.invokevirtual 103, 3) := by decide +kernel
theorem dX8_fits_81 : decode cX8_fits 81 = .ok (.pop, 1) := by decide +kernel
theorem dX8_fits_82 : decode cX8_fits 82 = .ok (.iload 4, 2) := by decide +kernel
theorem dX8_fits_84 : decode cX8_fits 84 = .ok (.ifCond .ne 8, 3) := by decide +kernel
theorem dX8_fits_87 : decode cX8_fits 87 = .ok (.iload 6, 2) := by decide +kernel
theorem dX8_fits_89 : decode cX8_fits 89 = .ok (.goto 5, 3) := by decide +kernel
theorem dX8_fits_92 : decode cX8_fits 92 = .ok (.iload 7, 2) := by decide +kernel
theorem dX8_fits_94 : decode cX8_fits 94 = .ok (.ireturn, 1) := by decide +kernel
theorem sd849_0 (F : zFx p l R s m args meth c D cid kv N0 xs Ls RX8 cX8_fits 10 n0 z0 nF zE d) (IH : zAllM l D cid kv N0 xs Ls d) (hQ : ∀ v h, Qq v h → v = r0 ∧ h = hF) (hn : nF = zN hF) (hz : zE = zZ hF) (hlocks : meth.locks = false) (hr : meth.sig.returnType = (some .int)) : zSoL p l e R s m args below meth c D cid kv N0 xs Ls 10 (MQ below (zQc D cid kv N0 xs Ls ρ0 r0 hF) args s (nF - n0) (zE - z0) (zA N0)) ρ0 n0 z0 nF zE Qq (zCall d) zt849_0 := zc_so (si_aload_n F dX8_fits_0 rfl)
  (zc_so (si_iload_n F dX8_fits_1 rfl)
  (zc_so (si_iload_n F dX8_fits_2 rfl)
  (zc_so (si_cV F (IH 808 mm808) mp808 (by decide) rfl rfl (by decide) tb_819 mi808 ms808 mn808 mc808 dX8_fits_3)
  (zc_so (si_istore F dX8_fits_6)
  (zc_so (si_iconst F dX8_fits_8 rfl)
  (zc_so (si_istore F dX8_fits_9)
  (zc_so (si_bipush F dX8_fits_11 rfl)
  (zc_so (si_istore F dX8_fits_13)
  (zc_so (si_iload_n F dX8_fits_15 rfl)
  (zc_so (si_istore F dX8_fits_16)
  (zc_so (si_iload F dX8_fits_18)
  (zc_so (si_iflt F dX8_fits_20 rfl)
  (zc_so (si_aload_n F dX8_fits_23 rfl)
  (zc_so (si_iload_n F dX8_fits_24 rfl)
  (zc_so (si_iload_n F dX8_fits_25 rfl)
  (zc_so (si_iload F dX8_fits_26)
  (zc_so (si_cV F (IH 809 mm809) mp809 (by decide) rfl rfl (by decide) tb_888 mi809 ms809 mn809 mc809 dX8_fits_28)
  (zc_so (si_pop F dX8_fits_31)
  (zc_so (si_aload_n F dX8_fits_32 rfl)
  (zc_so (si_cV F (IH 848 mm848) mp848 (by decide) rfl rfl (by decide) tb_981 mi848 ms848 mn848 mc848 dX8_fits_33)
  (zc_so (si_istore F dX8_fits_36)
  (zc_so (si_iload F dX8_fits_38)
  (zc_so (si_iload F dX8_fits_40)
  (zc_so (si_ifeq F dX8_fits_42 rfl)
  (zc_so (si_iconst F dX8_fits_45 rfl)
  (zc_so (si_goto F dX8_fits_46 rfl)
  (zc_so (si_iconst F dX8_fits_49 rfl)
  (zc_so (si_iadd F dX8_fits_50)
  (zc_so (si_istore F dX8_fits_51)
  (zc_so (si_iload F dX8_fits_53)
  (zc_so (si_ifeq F dX8_fits_55 rfl)
  (zc_so (si_iload F dX8_fits_58)
  (zc_so (si_goto F dX8_fits_60 rfl)
  (zc_so (si_iload F dX8_fits_63)
  (zc_nil)))))))))))))))))))))))))))))))))))
theorem sd849_1 (F : zFx p l R s m args meth c D cid kv N0 xs Ls RX8 cX8_fits 10 n0 z0 nF zE d) (IH : zAllM l D cid kv N0 xs Ls d) (hQ : ∀ v h, Qq v h → v = r0 ∧ h = hF) (hn : nF = zN hF) (hz : zE = zZ hF) (hlocks : meth.locks = false) (hr : meth.sig.returnType = (some .int)) : zSoL p l e R s m args below meth c D cid kv N0 xs Ls 10 (MQ below (zQc D cid kv N0 xs Ls ρ0 r0 hF) args s (nF - n0) (zE - z0) (zA N0)) ρ0 n0 z0 nF zE Qq (zCall d) zt849_1 := zc_so (si_istore F dX8_fits_65)
  (zc_so (si_iinc F dX8_fits_67 rfl)
  (zc_so (si_goto F dX8_fits_70 rfl)
  (zc_so (si_aload_n F dX8_fits_73 rfl)
  (zc_so (si_iload_n F dX8_fits_74 rfl)
  (zc_so (si_iload_n F dX8_fits_75 rfl)
  (zc_so (si_iload F dX8_fits_76)
  (zc_so (si_cV F (IH 809 mm809) mp809 (by decide) rfl rfl (by decide) tb_888 mi809 ms809 mn809 mc809 dX8_fits_78)
  (zc_so (si_pop F dX8_fits_81)
  (zc_so (si_iload F dX8_fits_82)
  (zc_so (si_ifne F dX8_fits_84 rfl)
  (zc_so (si_iload F dX8_fits_87)
  (zc_so (si_goto F dX8_fits_89 rfl)
  (zc_so (si_iload F dX8_fits_92)
  (zc_so (si_rI F hQ hn hz hlocks hr (fun _ _ => rfl) dX8_fits_94)
  (zc_nil)))))))))))))))
theorem sd849 (F : zFx p l R s m args meth c D cid kv N0 xs Ls RX8 cX8_fits 10 n0 z0 nF zE d) (IH : zAllM l D cid kv N0 xs Ls d) (hQ : ∀ v h, Qq v h → v = r0 ∧ h = hF) (hn : nF = zN hF) (hz : zE = zZ hF) (hlocks : meth.locks = false) (hr : meth.sig.returnType = (some .int)) (pc : Nat) : zSo p l e R s m args below meth c D cid kv N0 xs Ls 10 (MQ below (zQc D cid kv N0 xs Ls ρ0 r0 hF) args s (nF - n0) (zE - z0) (zA N0)) ρ0 n0 z0 nF zE Qq (zCall d) pc (zTab 849 pc) := zc_tab [zt849_0, zt849_1] (zc_cons (sd849_0 F IH hQ hn hz hlocks hr) (zc_cons (sd849_1 F IH hQ hn hz hlocks hr) zc_end))
theorem dX8_can_0 : decode cX8_can 0 = .ok (.aload_n 0, 1) := by decide +kernel
theorem dX8_can_1 : decode cX8_can 1 = .ok (.iload_n 1, 1) := by decide +kernel
theorem dX8_can_2 : decode cX8_can 2 = .ok (.invokevirtual 92, 3) := by decide +kernel
theorem dX8_can_5 : decode cX8_can 5 = .ok (.ifCond .eq 21, 3) := by decide +kernel
theorem dX8_can_8 : decode cX8_can 8 = .ok (.iload_n 2, 1) := by decide +kernel
theorem dX8_can_9 : decode cX8_can 9 = .ok (.iconst 0, 1) := by decide +kernel
theorem dX8_can_10 : decode cX8_can 10 = .ok (.iconst 1, 1) := by decide +kernel
theorem dX8_can_11 : decode cX8_can 11 = .ok (.invokestatic 84, 3) := by decide +kernel
theorem dX8_can_14 : decode cX8_can 14 = .ok (.ifCond .eq 12, 3) := by decide +kernel
theorem dX8_can_17 : decode cX8_can 17 = .ok (.iload_n 3, 1) := by decide +kernel
theorem dX8_can_18 : decode cX8_can 18 = .ok (.iconst 0, 1) := by decide +kernel
theorem dX8_can_19 : decode cX8_can 19 = .ok (.iconst 1, 1) := by decide +kernel
theorem dX8_can_20 : decode cX8_can 20 = .ok (.invokestatic 84, 3) := by decide +kernel
theorem dX8_can_23 : decode cX8_can 23 = .ok (.ifCond .ne 5, 3) := by decide +kernel
theorem dX8_can_26 : decode cX8_can 26 = .ok (.iconst (-1), 1) := by decide +kernel
theorem dX8_can_27 : decode cX8_can 27 = .ok (.ireturn, 1) := by decide +kernel
theorem dX8_can_28 : decode cX8_can 28 = .ok (.iload_n 2, 1) := by decide +kernel
theorem dX8_can_29 : decode cX8_can 29 = .ok (.ifCond .ne 15, 3) := by decide +kernel
theorem dX8_can_32 : decode cX8_can 32 = .ok (.aload_n 0, 1) := by decide +kernel
theorem dX8_can_33 : decode cX8_can 33 = .ok (.iload_n 1, 1) := by decide +kernel
theorem dX8_can_34 : decode cX8_can 34 = .ok (.iconst 2, 1) := by decide +kernel
theorem dX8_can_35 : decode cX8_can 35 = .ok (.bipush 99, 2) := by decide +kernel
theorem dX8_can_37 : decode cX8_can 37 = .ok (.iload_n 3, 1) := by decide +kernel
theorem dX8_can_38 : decode cX8_can 38 = .ok (.invokevirtual 216, 3) := by decide +kernel
theorem dX8_can_41 : decode cX8_can 41 = .ok (.goto 12, 3) := by decide +kernel
theorem dX8_can_44 : decode cX8_can 44 = .ok (.aload_n 0, 1) := by decide +kernel
theorem dX8_can_45 : decode cX8_can 45 = .ok (.iload_n 1, 1) := by decide +kernel
theorem dX8_can_46 : decode cX8_can 46 = .ok (.iconst 1, 1) := by decide +kernel
theorem dX8_can_47 : decode cX8_can 47 = .ok (.bipush 9, 2) := by decide +kernel
theorem dX8_can_49 : decode cX8_can 49 = .ok (.iload_n 3, 1) := by decide +kernel
theorem dX8_can_50 : decode cX8_can 50 = .ok (.invokevirtual 216, 3) := by decide +kernel
theorem dX8_can_53 : decode cX8_can 53 = .ok (.ireturn, 1) := by decide +kernel
theorem sd850_0 (F : zFx p l R s m args meth c D cid kv N0 xs Ls RX8 cX8_can 4 n0 z0 nF zE d) (IH : zAllM l D cid kv N0 xs Ls d) (hQ : ∀ v h, Qq v h → v = r0 ∧ h = hF) (hn : nF = zN hF) (hz : zE = zZ hF) (hlocks : meth.locks = false) (hr : meth.sig.returnType = (some .int)) : zSoL p l e R s m args below meth c D cid kv N0 xs Ls 4 (MQ below (zQc D cid kv N0 xs Ls ρ0 r0 hF) args s (nF - n0) (zE - z0) (zA N0)) ρ0 n0 z0 nF zE Qq (zCall d) zt850_0 := zc_so (si_aload_n F dX8_can_0 rfl)
  (zc_so (si_iload_n F dX8_can_1 rfl)
  (zc_so (si_cV F (IH 807 mm807) mp807 (by decide) rfl rfl (by decide) tb_815 mi807 ms807 mn807 mc807 dX8_can_2)
  (zc_so (si_ifeq F dX8_can_5 rfl)
  (zc_so (si_iload_n F dX8_can_8 rfl)
  (zc_so (si_iconst F dX8_can_9 rfl)
  (zc_so (si_iconst F dX8_can_10 rfl)
  (zc_so (si_cS  F (IH 802 mm802) mp802 (by decide) tb_808 mi802 mn802 mc802 dX8_can_11)
  (zc_so (si_ifeq F dX8_can_14 rfl)
  (zc_so (si_iload_n F dX8_can_17 rfl)
  (zc_so (si_iconst F dX8_can_18 rfl)
  (zc_so (si_iconst F dX8_can_19 rfl)
  (zc_so (si_cS  F (IH 802 mm802) mp802 (by decide) tb_808 mi802 mn802 mc802 dX8_can_20)
  (zc_so (si_ifne F dX8_can_23 rfl)
  (zc_so (si_iconst F dX8_can_26 rfl)
  (zc_so (si_rI F hQ hn hz hlocks hr (fun _ _ => rfl) dX8_can_27)
  (zc_so (si_iload_n F dX8_can_28 rfl)
  (zc_so (si_ifne F dX8_can_29 rfl)
  (zc_so (si_aload_n F dX8_can_32 rfl)
  (zc_so (si_iload_n F dX8_can_33 rfl)
  (zc_so (si_iconst F dX8_can_34 rfl)
  (zc_so (si_bipush F dX8_can_35 rfl)
  (zc_so (si_iload_n F dX8_can_37 rfl)
  (zc_so (si_cV F (IH 849 mm849) mp849 (by decide) rfl rfl (by decide) tb_977 mi849 ms849 mn849 mc849 dX8_can_38)
  (zc_so (si_goto F dX8_can_41 rfl)
  (zc_so (si_aload_n F dX8_can_44 rfl)
  (zc_so (si_iload_n F dX8_can_45 rfl)
  (zc_so (si_iconst F dX8_can_46 rfl)
  (zc_so (si_bipush F dX8_can_47 rfl)
  (zc_so (si_iload_n F dX8_can_49 rfl)
  (zc_so (si_cV F (IH 849 mm849) mp849 (by decide) rfl rfl (by decide) tb_977 mi849 ms849 mn849 mc849 dX8_can_50)
  (zc_so (si_rI F hQ hn hz hlocks hr (fun _ _ => rfl) dX8_can_53)
  (zc_nil))))))))))))))))))))))))))))))))
theorem sd850 (F : zFx p l R s m args meth c D cid kv N0 xs Ls RX8 cX8_can 4 n0 z0 nF zE d) (IH : zAllM l D cid kv N0 xs Ls d) (hQ : ∀ v h, Qq v h → v = r0 ∧ h = hF) (hn : nF = zN hF) (hz : zE = zZ hF) (hlocks : meth.locks = false) (hr : meth.sig.returnType = (some .int)) (pc : Nat) : zSo p l e R s m args below meth c D cid kv N0 xs Ls 4 (MQ below (zQc D cid kv N0 xs Ls ρ0 r0 hF) args s (nF - n0) (zE - z0) (zA N0)) ρ0 n0 z0 nF zE Qq (zCall d) pc (zTab 850 pc) := zc_tab [zt850_0] (zc_cons (sd850_0 F IH hQ hn hz hlocks hr) zc_end)
theorem dX8_places_0 : decode cX8_places 0 = .ok (.aload_n 0, 1) := by decide +kernel
theorem dX8_places_1 : decode cX8_places 1 = .ok (.iload_n 1, 1) := by decide +kernel
theorem dX8_places_2 : decode cX8_places 2 = .ok (.invokevirtual 92, 3) := by decide +kernel
theorem dX8_places_5 : decode cX8_places 5 = .ok (.ifCond .ne 5, 3) := by decide +kernel
theorem dX8_places_8 : decode cX8_places 8 = .ok (.iconst (-1), 1) := by decide +kernel
theorem dX8_places_9 : decode cX8_places 9 = .ok (.ireturn, 1) := by decide +kernel
theorem dX8_places_10 : decode cX8_places 10 = .ok (.aload_n 0, 1) := by decide +kernel
theorem dX8_places_11 : decode cX8_places 11 = .ok (.iload_n 1, 1) := by decide +kernel
theorem dX8_places_12 : decode cX8_places 12 = .ok (.iconst 3, 1) := by decide +kernel
theorem dX8_places_13 : decode cX8_places 13 = .ok (.invokevirtual 88, 3) := by decide +kernel
theorem dX8_places_16 : decode cX8_places 16 = .ok (.istore_n 2, 1) := by decide +kernel
theorem dX8_places_17 : decode cX8_places 17 = .ok (.aload_n 0, 1) := by decide +kernel
theorem dX8_places_18 : decode cX8_places 18 = .ok (.iload_n 1, 1) := by decide +kernel
theorem dX8_places_19 : decode cX8_places 19 = .ok (.iconst 4, 1) := by decide +kernel
theorem dX8_places_20 : decode cX8_places 20 = .ok (.iconst 0, 1) := by decide +kernel
theorem dX8_places_21 : decode cX8_places 21 = .ok (.invokevirtual 103, 3) := by decide +kernel
theorem dX8_places_24 : decode cX8_places 24 = .ok (.istore_n 3, 1) := by decide +kernel
theorem dX8_places_25 : decode cX8_places 25 = .ok (.iconst 0, 1) := by decide +kernel
theorem dX8_places_26 : decode cX8_places 26 = .ok (.istore 4, 2) := by decide +kernel
theorem dX8_places_28 : decode cX8_places 28 = .ok (.iconst 0, 1) := by decide +kernel
theorem dX8_places_29 : decode cX8_places 29 = .ok (.istore 5, 2) := by decide +kernel
theorem dX8_places_31 : decode cX8_places 31 = .ok (.iload 5, 2) := by decide +kernel
theorem dX8_places_33 : decode cX8_places 33 = .ok (.bipush 10, 2) := by decide +kernel
theorem dX8_places_35 : decode cX8_places 35 = .ok (.if_icmp .gt 38, 3) := by decide +kernel
theorem dX8_places_38 : decode cX8_places 38 = .ok (.aload_n 0, 1) := by decide +kernel
theorem dX8_places_39 : decode cX8_places 39 = .ok (.iload_n 1, 1) := by decide +kernel
theorem dX8_places_40 : decode cX8_places 40 = .ok (.iconst 3, 1) := by decide +kernel
theorem dX8_places_41 : decode cX8_places 41 = .ok (.iload 5, 2) := by decide +kernel
theorem dX8_places_43 : decode cX8_places 43 = .ok (.invokevirtual 103, 3) := by decide +kernel
theorem dX8_places_46 : decode cX8_places 46 = .ok (.pop, 1) := by decide +kernel
theorem dX8_places_47 : decode cX8_places 47 = .ok (.iload 4, 2) := by decide +kernel
theorem dX8_places_49 : decode cX8_places 49 = .ok (.aload_n 0, 1) := by decide +kernel
theorem dX8_places_50 : decode cX8_places 50 = .ok (.invokevirtual 213, 3) := by decide +kernel
theorem dX8_places_53 : decode cX8_places 53 = .ok (.ifCond .eq 10, 3) := by decide +kernel
theorem dX8_places_56 : decode cX8_places 56 = .ok (.iconst 1, 1) := by decide +kernel
theorem dX8_places_57 : decode cX8_places 57 = .ok (.iload 5, 2) := by decide +kernel
theorem dX8_places_59 : decode cX8_places 59 = .ok (.ishl, 1) := by decide +kernel
theorem dX8_places_60 : decode cX8_places 60 = .ok (.goto 4, 3) := by decide +kernel
theorem dX8_places_63 : decode cX8_places 63 = .ok (.iconst 0, 1) := by decide +kernel
theorem dX8_places_64 : decode cX8_places 64 = .ok (.ior, 1) := by decide +kernel
theorem dX8_places_65 : decode cX8_places 65 = .ok (.istore 4, 2) := by decide +kernel
theorem dX8_places_67 : decode cX8_places 67 = .ok (.iinc 5 1, 3) := by decide +kernel
theorem dX8_places_70 : decode cX8_places 70 = .ok (.goto (-39), 3) := by decide +kernel
theorem dX8_places_73 : decode cX8_places 73 = .ok (.aload_n 0, 1) := by decide +kernel
theorem dX8_places_74 : decode cX8_places 74 = .ok (.iload_n 1, 1) := by decide +kernel
theorem dX8_places_75 : decode cX8_places 75 = .ok (.iconst 3, 1) := by decide +kernel
theorem dX8_places_76 : decode cX8_places 76 = .ok (.iload_n 2, 1) := by decide +kernel
theorem dX8_places_77 : decode cX8_places 77 = .ok (.invokevirtual 103, 3) := by decide +kernel
theorem dX8_places_80 : decode cX8_places 80 = .ok (.pop, 1) := by decide +kernel
theorem dX8_places_81 : decode cX8_places 81 = .ok (.aload_n 0, 1) := by decide +kernel
theorem dX8_places_82 : decode cX8_places 82 = .ok (.iload_n 1, 1) := by decide +kernel
theorem dX8_places_83 : decode cX8_places 83 = .ok (.iconst 4, 1) := by decide +kernel
theorem dX8_places_84 : decode cX8_places 84 = .ok (.iload_n 3, 1) := by decide +kernel
theorem dX8_places_85 : decode cX8_places 85 = .ok (.invokevirtual 103, 3) := by decide +kernel
theorem dX8_places_88 : decode cX8_places 88 = .ok (.pop, 1) := by decide +kernel
theorem dX8_places_89 : decode cX8_places 89 = .ok (.iload 4, 2) := by decide +kernel
theorem dX8_places_91 : decode cX8_places 91 = .ok (.ireturn, 1) := by decide +kernel
theorem sd851_0 (F : zFx p l R s m args meth c D cid kv N0 xs Ls RX8 cX8_places 6 n0 z0 nF zE d) (IH : zAllM l D cid kv N0 xs Ls d) (hQ : ∀ v h, Qq v h → v = r0 ∧ h = hF) (hn : nF = zN hF) (hz : zE = zZ hF) (hlocks : meth.locks = false) (hr : meth.sig.returnType = (some .int)) : zSoL p l e R s m args below meth c D cid kv N0 xs Ls 6 (MQ below (zQc D cid kv N0 xs Ls ρ0 r0 hF) args s (nF - n0) (zE - z0) (zA N0)) ρ0 n0 z0 nF zE Qq (zCall d) zt851_0 := zc_so (si_aload_n F dX8_places_0 rfl)
  (zc_so (si_iload_n F dX8_places_1 rfl)
  (zc_so (si_cV F (IH 807 mm807) mp807 (by decide) rfl rfl (by decide) tb_815 mi807 ms807 mn807 mc807 dX8_places_2)
  (zc_so (si_ifne F dX8_places_5 rfl)
  (zc_so (si_iconst F dX8_places_8 rfl)
  (zc_so (si_rI F hQ hn hz hlocks hr (fun _ _ => rfl) dX8_places_9)
  (zc_so (si_aload_n F dX8_places_10 rfl)
  (zc_so (si_iload_n F dX8_places_11 rfl)
  (zc_so (si_iconst F dX8_places_12 rfl)
  (zc_so (si_cV F (IH 808 mm808) mp808 (by decide) rfl rfl (by decide) tb_819 mi808 ms808 mn808 mc808 dX8_places_13)
  (zc_so (si_istore_n F dX8_places_16 rfl)
  (zc_so (si_aload_n F dX8_places_17 rfl)
  (zc_so (si_iload_n F dX8_places_18 rfl)
  (zc_so (si_iconst F dX8_places_19 rfl)
  (zc_so (si_iconst F dX8_places_20 rfl)
  (zc_so (si_cV F (IH 809 mm809) mp809 (by decide) rfl rfl (by decide) tb_888 mi809 ms809 mn809 mc809 dX8_places_21)
  (zc_so (si_istore_n F dX8_places_24 rfl)
  (zc_so (si_iconst F dX8_places_25 rfl)
  (zc_so (si_istore F dX8_places_26)
  (zc_so (si_iconst F dX8_places_28 rfl)
  (zc_so (si_istore F dX8_places_29)
  (zc_so (si_iload F dX8_places_31)
  (zc_so (si_bipush F dX8_places_33 rfl)
  (zc_so (si_icgt F dX8_places_35 rfl)
  (zc_so (si_aload_n F dX8_places_38 rfl)
  (zc_so (si_iload_n F dX8_places_39 rfl)
  (zc_so (si_iconst F dX8_places_40 rfl)
  (zc_so (si_iload F dX8_places_41)
  (zc_so (si_cV F (IH 809 mm809) mp809 (by decide) rfl rfl (by decide) tb_888 mi809 ms809 mn809 mc809 dX8_places_43)
  (zc_so (si_pop F dX8_places_46)
  (zc_so (si_iload F dX8_places_47)
  (zc_so (si_aload_n F dX8_places_49 rfl)
  (zc_so (si_cV F (IH 848 mm848) mp848 (by decide) rfl rfl (by decide) tb_981 mi848 ms848 mn848 mc848 dX8_places_50)
  (zc_so (si_ifeq F dX8_places_53 rfl)
  (zc_so (si_iconst F dX8_places_56 rfl)
  (zc_so (si_iload F dX8_places_57)
  (zc_so (si_ishl F dX8_places_59)
  (zc_so (si_goto F dX8_places_60 rfl)
  (zc_so (si_iconst F dX8_places_63 rfl)
  (zc_nil)))))))))))))))))))))))))))))))))))))))
theorem sd851_1 (F : zFx p l R s m args meth c D cid kv N0 xs Ls RX8 cX8_places 6 n0 z0 nF zE d) (IH : zAllM l D cid kv N0 xs Ls d) (hQ : ∀ v h, Qq v h → v = r0 ∧ h = hF) (hn : nF = zN hF) (hz : zE = zZ hF) (hlocks : meth.locks = false) (hr : meth.sig.returnType = (some .int)) : zSoL p l e R s m args below meth c D cid kv N0 xs Ls 6 (MQ below (zQc D cid kv N0 xs Ls ρ0 r0 hF) args s (nF - n0) (zE - z0) (zA N0)) ρ0 n0 z0 nF zE Qq (zCall d) zt851_1 := zc_so (si_ior F dX8_places_64)
  (zc_so (si_istore F dX8_places_65)
  (zc_so (si_iinc F dX8_places_67 rfl)
  (zc_so (si_goto F dX8_places_70 rfl)
  (zc_so (si_aload_n F dX8_places_73 rfl)
  (zc_so (si_iload_n F dX8_places_74 rfl)
  (zc_so (si_iconst F dX8_places_75 rfl)
  (zc_so (si_iload_n F dX8_places_76 rfl)
  (zc_so (si_cV F (IH 809 mm809) mp809 (by decide) rfl rfl (by decide) tb_888 mi809 ms809 mn809 mc809 dX8_places_77)
  (zc_so (si_pop F dX8_places_80)
  (zc_so (si_aload_n F dX8_places_81 rfl)
  (zc_so (si_iload_n F dX8_places_82 rfl)
  (zc_so (si_iconst F dX8_places_83 rfl)
  (zc_so (si_iload_n F dX8_places_84 rfl)
  (zc_so (si_cV F (IH 809 mm809) mp809 (by decide) rfl rfl (by decide) tb_888 mi809 ms809 mn809 mc809 dX8_places_85)
  (zc_so (si_pop F dX8_places_88)
  (zc_so (si_iload F dX8_places_89)
  (zc_so (si_rI F hQ hn hz hlocks hr (fun _ _ => rfl) dX8_places_91)
  (zc_nil))))))))))))))))))
theorem sd851 (F : zFx p l R s m args meth c D cid kv N0 xs Ls RX8 cX8_places 6 n0 z0 nF zE d) (IH : zAllM l D cid kv N0 xs Ls d) (hQ : ∀ v h, Qq v h → v = r0 ∧ h = hF) (hn : nF = zN hF) (hz : zE = zZ hF) (hlocks : meth.locks = false) (hr : meth.sig.returnType = (some .int)) (pc : Nat) : zSo p l e R s m args below meth c D cid kv N0 xs Ls 6 (MQ below (zQc D cid kv N0 xs Ls ρ0 r0 hF) args s (nF - n0) (zE - z0) (zA N0)) ρ0 n0 z0 nF zE Qq (zCall d) pc (zTab 851 pc) := zc_tab [zt851_0, zt851_1] (zc_cons (sd851_0 F IH hQ hn hz hlocks hr) (zc_cons (sd851_1 F IH hQ hn hz hlocks hr) zc_end))
theorem dX8_fraction_0 : decode cX8_fraction 0 = .ok (.lload_n 0, 1) := by decide +kernel
theorem dX8_fraction_1 : decode cX8_fraction 1 = .ok (.lstore 5, 2) := by decide +kernel
theorem dX8_fraction_3 : decode cX8_fraction 3 = .ok (.lload_n 2, 1) := by decide +kernel
theorem dX8_fraction_4 : decode cX8_fraction 4 = .ok (.lstore 7, 2) := by decide +kernel
theorem dX8_fraction_6 : decode cX8_fraction 6 = .ok (.lload 7, 2) := by decide +kernel
theorem dX8_fraction_8 : decode cX8_fraction 8 = .ok (.lconst 0, 1) := by decide +kernel
theorem dX8_fraction_9 : decode cX8_fraction 9 = .ok (.lcmp, 1) := by decide +kernel
theorem dX8_fraction_10 : decode cX8_fraction 10 = .ok (.ifCond .eq 21, 3) := by decide +kernel
theorem dX8_fraction_13 : decode cX8_fraction 13 = .ok (.lload 5, 2) := by decide +kernel
theorem dX8_fraction_15 : decode cX8_fraction 15 = .ok (.lload 7, 2) := by decide +kernel
theorem dX8_fraction_17 : decode cX8_fraction 17 = .ok (.lrem, 1) := by decide +kernel
theorem dX8_fraction_18 : decode cX8_fraction 18 = .ok (.lstore 9, 2) := by decide +kernel
theorem dX8_fraction_20 : decode cX8_fraction 20 = .ok (.lload 7, 2) := by decide +kernel
theorem dX8_fraction_22 : decode cX8_fraction 22 = .ok (.lstore 5, 2) := by decide +kernel
theorem dX8_fraction_24 : decode cX8_fraction 24 = .ok (.lload 9, 2) := by decide +kernel
theorem dX8_fraction_26 : decode cX8_fraction 26 = .ok (.lstore 7, 2) := by decide +kernel
theorem dX8_fraction_28 : decode cX8_fraction 28 = .ok (.goto (-22), 3) := by decide +kernel
theorem dX8_fraction_31 : decode cX8_fraction 31 = .ok (.iload 4, 2) := by decide +kernel
theorem dX8_fraction_33 : decode cX8_fraction 33 = .ok (.ifCond .ne 10, 3) := by decide +kernel
theorem dX8_fraction_36 : decode cX8_fraction 36 = .ok (.lload_n 0, 1) := by decide +kernel
theorem dX8_fraction_37 : decode cX8_fraction 37 = .ok (.lload 5, 2) := by decide +kernel
theorem dX8_fraction_39 : decode cX8_fraction 39 = .ok (.ldiv, 1) := by decide +kernel
theorem dX8_fraction_40 : decode cX8_fraction 40 = .ok (.goto 7, 3) := by decide +kernel
theorem dX8_fraction_43 : decode cX8_fraction 43 = .ok (.lload_n 2, 1) := by decide +kernel
theorem dX8_fraction_44 : decode cX8_fraction 44 = .ok (.lload 5, 2) := by decide +kernel
theorem dX8_fraction_46 : decode cX8_fraction 46 = .ok (.ldiv, 1) := by decide +kernel
theorem dX8_fraction_47 : decode cX8_fraction 47 = .ok (.lreturn, 1) := by decide +kernel
theorem sd852_0 (F : zFx p l R s m args meth c D cid kv N0 xs Ls RX8 cX8_fraction 11 n0 z0 nF zE d) (IH : zAllM l D cid kv N0 xs Ls d) (hQ : ∀ v h, Qq v h → v = r0 ∧ h = hF) (hn : nF = zN hF) (hz : zE = zZ hF) (hlocks : meth.locks = false) (hr : meth.sig.returnType = (some .long)) : zSoL p l e R s m args below meth c D cid kv N0 xs Ls 11 (MQ below (zQc D cid kv N0 xs Ls ρ0 r0 hF) args s (nF - n0) (zE - z0) (zA N0)) ρ0 n0 z0 nF zE Qq (zCall d) zt852_0 := zc_so (si_lload_n F dX8_fraction_0 rfl)
  (zc_so (si_lstore F dX8_fraction_1)
  (zc_so (si_lload_n F dX8_fraction_3 rfl)
  (zc_so (si_lstore F dX8_fraction_4)
  (zc_so (si_lload F dX8_fraction_6)
  (zc_so (si_lconst F dX8_fraction_8 rfl)
  (zc_so (si_lcmp F dX8_fraction_9)
  (zc_so (si_ifeq F dX8_fraction_10 rfl)
  (zc_so (si_lload F dX8_fraction_13)
  (zc_so (si_lload F dX8_fraction_15)
  (zc_so (si_lrem F dX8_fraction_17)
  (zc_so (si_lstore F dX8_fraction_18)
  (zc_so (si_lload F dX8_fraction_20)
  (zc_so (si_lstore F dX8_fraction_22)
  (zc_so (si_lload F dX8_fraction_24)
  (zc_so (si_lstore F dX8_fraction_26)
  (zc_so (si_goto F dX8_fraction_28 rfl)
  (zc_so (si_iload F dX8_fraction_31)
  (zc_so (si_ifne F dX8_fraction_33 rfl)
  (zc_so (si_lload_n F dX8_fraction_36 rfl)
  (zc_so (si_lload F dX8_fraction_37)
  (zc_so (si_ldiv F dX8_fraction_39)
  (zc_so (si_goto F dX8_fraction_40 rfl)
  (zc_so (si_lload_n F dX8_fraction_43 rfl)
  (zc_so (si_lload F dX8_fraction_44)
  (zc_so (si_ldiv F dX8_fraction_46)
  (zc_so (si_rJ F hQ hn hz hlocks hr dX8_fraction_47)
  (zc_nil)))))))))))))))))))))))))))
theorem sd852 (F : zFx p l R s m args meth c D cid kv N0 xs Ls RX8 cX8_fraction 11 n0 z0 nF zE d) (IH : zAllM l D cid kv N0 xs Ls d) (hQ : ∀ v h, Qq v h → v = r0 ∧ h = hF) (hn : nF = zN hF) (hz : zE = zZ hF) (hlocks : meth.locks = false) (hr : meth.sig.returnType = (some .long)) (pc : Nat) : zSo p l e R s m args below meth c D cid kv N0 xs Ls 11 (MQ below (zQc D cid kv N0 xs Ls ρ0 r0 hF) args s (nF - n0) (zE - z0) (zA N0)) ρ0 n0 z0 nF zE Qq (zCall d) pc (zTab 852 pc) := zc_tab [zt852_0] (zc_cons (sd852_0 F IH hQ hn hz hlocks hr) zc_end)
theorem dX8_odds_0 : decode cX8_odds 0 = .ok (.aload_n 0, 1) := by decide +kernel
theorem dX8_odds_1 : decode cX8_odds 1 = .ok (.iload_n 1, 1) := by decide +kernel
theorem dX8_odds_2 : decode cX8_odds 2 = .ok (.invokevirtual 92, 3) := by decide +kernel
theorem dX8_odds_5 : decode cX8_odds 5 = .ok (.ifCond .eq 22, 3) := by decide +kernel
theorem dX8_odds_8 : decode cX8_odds 8 = .ok (.iload_n 2, 1) := by decide +kernel
theorem dX8_odds_9 : decode cX8_odds 9 = .ok (.iconst 0, 1) := by decide +kernel
theorem dX8_odds_10 : decode cX8_odds 10 = .ok (.bipush 60, 2) := by decide +kernel
theorem dX8_odds_12 : decode cX8_odds 12 = .ok (.invokestatic 84, 3) := by decide +kernel
theorem dX8_odds_15 : decode cX8_odds 15 = .ok (.ifCond .eq 12, 3) := by decide +kernel
theorem dX8_odds_18 : decode cX8_odds 18 = .ok (.iload_n 3, 1) := by decide +kernel
theorem dX8_odds_19 : decode cX8_odds 19 = .ok (.iconst 0, 1) := by decide +kernel
theorem dX8_odds_20 : decode cX8_odds 20 = .ok (.iconst 1, 1) := by decide +kernel
theorem dX8_odds_21 : decode cX8_odds 21 = .ok (.invokestatic 84, 3) := by decide +kernel
theorem dX8_odds_24 : decode cX8_odds 24 = .ok (.ifCond .ne 7, 3) := by decide +kernel
theorem dX8_odds_27 : decode cX8_odds 27 = .ok (.ldc2_w 220, 3) := by decide +kernel
theorem dX8_odds_30 : decode cX8_odds 30 = .ok (.lreturn, 1) := by decide +kernel
theorem dX8_odds_31 : decode cX8_odds 31 = .ok (.iconst 0, 1) := by decide +kernel
theorem dX8_odds_32 : decode cX8_odds 32 = .ok (.istore 4, 2) := by decide +kernel
theorem dX8_odds_34 : decode cX8_odds 34 = .ok (.iconst 0, 1) := by decide +kernel
theorem dX8_odds_35 : decode cX8_odds 35 = .ok (.istore 5, 2) := by decide +kernel
theorem dX8_odds_37 : decode cX8_odds 37 = .ok (.iload 5, 2) := by decide +kernel
theorem dX8_odds_39 : decode cX8_odds 39 = .ok (.bipush 20, 2) := by decide +kernel
theorem dX8_odds_41 : decode cX8_odds 41 = .ok (.if_icmp .gt 30, 3) := by decide +kernel
theorem dX8_odds_44 : decode cX8_odds 44 = .ok (.aload_n 0, 1) := by decide +kernel
theorem dX8_odds_45 : decode cX8_odds 45 = .ok (.iload 5, 2) := by decide +kernel
theorem dX8_odds_47 : decode cX8_odds 47 = .ok (.putfield 25, 3) := by decide +kernel
theorem dX8_odds_50 : decode cX8_odds 50 = .ok (.iload 4, 2) := by decide +kernel
theorem dX8_odds_52 : decode cX8_odds 52 = .ok (.aload_n 0, 1) := by decide +kernel
theorem dX8_odds_53 : decode cX8_odds 53 = .ok (.iload_n 2, 1) := by decide +kernel
theorem dX8_odds_54 : decode cX8_odds 54 = .ok (.iconst 1, 1) := by decide +kernel
theorem dX8_odds_55 : decode cX8_odds 55 = .ok (.invokevirtual 197, 3) := by decide +kernel
theorem dX8_odds_58 : decode cX8_odds 58 = .ok (.iload_n 1, 1) := by decide +kernel
theorem dX8_odds_59 : decode cX8_odds 59 = .ok (.ishr, 1) := by decide +kernel
theorem dX8_odds_60 : decode cX8_odds 60 = .ok (.iconst 1, 1) := by decide +kernel
theorem dX8_odds_61 : decode cX8_odds 61 = .ok (.iand, 1) := by decide +kernel
theorem dX8_odds_62 : decode cX8_odds 62 = .ok (.iadd, 1) := by decide +kernel
theorem dX8_odds_63 : decode cX8_odds 63 = .ok (.istore 4, 2) := by decide +kernel
theorem dX8_odds_65 : decode cX8_odds 65 = .ok (.iinc 5 1, 3) := by decide +kernel
theorem dX8_odds_68 : decode cX8_odds 68 = .ok (.goto (-31), 3) := by decide +kernel
theorem dX8_odds_71 : decode cX8_odds 71 = .ok (.aload_n 0, 1) := by decide +kernel
theorem dX8_odds_72 : decode cX8_odds 72 = .ok (.iconst (-1), 1) := by decide +kernel
theorem dX8_odds_73 : decode cX8_odds 73 = .ok (.putfield 25, 3) := by decide +kernel
theorem dX8_odds_76 : decode cX8_odds 76 = .ok (.iload 4, 2) := by decide +kernel
theorem dX8_odds_78 : decode cX8_odds 78 = .ok (.i2l, 1) := by decide +kernel
theorem dX8_odds_79 : decode cX8_odds 79 = .ok (.ldc2_w 222, 3) := by decide +kernel
theorem dX8_odds_82 : decode cX8_odds 82 = .ok (.iload_n 3, 1) := by decide +kernel
theorem dX8_odds_83 : decode cX8_odds 83 = .ok (.invokestatic 224, 3) := by decide +kernel
theorem dX8_odds_86 : decode cX8_odds 86 = .ok (.lreturn, 1) := by decide +kernel
theorem sd853_0 (F : zFx p l R s m args meth c D cid kv N0 xs Ls RX8 cX8_odds 6 n0 z0 nF zE d) (IH : zAllM l D cid kv N0 xs Ls d) (hQ : ∀ v h, Qq v h → v = r0 ∧ h = hF) (hn : nF = zN hF) (hz : zE = zZ hF) (hlocks : meth.locks = false) (hr : meth.sig.returnType = (some .long)) : zSoL p l e R s m args below meth c D cid kv N0 xs Ls 6 (MQ below (zQc D cid kv N0 xs Ls ρ0 r0 hF) args s (nF - n0) (zE - z0) (zA N0)) ρ0 n0 z0 nF zE Qq (zCall d) zt853_0 := zc_so (si_aload_n F dX8_odds_0 rfl)
  (zc_so (si_iload_n F dX8_odds_1 rfl)
  (zc_so (si_cV F (IH 807 mm807) mp807 (by decide) rfl rfl (by decide) tb_815 mi807 ms807 mn807 mc807 dX8_odds_2)
  (zc_so (si_ifeq F dX8_odds_5 rfl)
  (zc_so (si_iload_n F dX8_odds_8 rfl)
  (zc_so (si_iconst F dX8_odds_9 rfl)
  (zc_so (si_bipush F dX8_odds_10 rfl)
  (zc_so (si_cS  F (IH 802 mm802) mp802 (by decide) tb_808 mi802 mn802 mc802 dX8_odds_12)
  (zc_so (si_ifeq F dX8_odds_15 rfl)
  (zc_so (si_iload_n F dX8_odds_18 rfl)
  (zc_so (si_iconst F dX8_odds_19 rfl)
  (zc_so (si_iconst F dX8_odds_20 rfl)
  (zc_so (si_cS  F (IH 802 mm802) mp802 (by decide) tb_808 mi802 mn802 mc802 dX8_odds_21)
  (zc_so (si_ifne F dX8_odds_24 rfl)
  (zc_so (si_ldc2_w F dX8_odds_27 tb_993)
  (zc_so (si_rJ F hQ hn hz hlocks hr dX8_odds_30)
  (zc_so (si_iconst F dX8_odds_31 rfl)
  (zc_so (si_istore F dX8_odds_32)
  (zc_so (si_iconst F dX8_odds_34 rfl)
  (zc_so (si_istore F dX8_odds_35)
  (zc_so (si_iload F dX8_odds_37)
  (zc_so (si_bipush F dX8_odds_39 rfl)
  (zc_so (si_icgt F dX8_odds_41 rfl)
  (zc_so (si_aload_n F dX8_odds_44 rfl)
  (zc_so (si_iload F dX8_odds_45)
  (zc_so (si_putI (k := 4) F rfl inT8 (by decide) (by decide) rfl rfl rfl rfl tyX8_ok nmX8 tb_708 dX8_odds_47)
  (zc_so (si_iload F dX8_odds_50)
  (zc_so (si_aload_n F dX8_odds_52 rfl)
  (zc_so (si_iload_n F dX8_odds_53 rfl)
  (zc_so (si_iconst F dX8_odds_54 rfl)
  (zc_so (si_cV F (IH 841 mm841) mp841 (by decide) rfl rfl (by decide) tb_957 mi841 ms841 mn841 mc841 dX8_odds_55)
  (zc_so (si_iload_n F dX8_odds_58 rfl)
  (zc_so (si_ishr F dX8_odds_59)
  (zc_so (si_iconst F dX8_odds_60 rfl)
  (zc_so (si_iand F dX8_odds_61)
  (zc_so (si_iadd F dX8_odds_62)
  (zc_so (si_istore F dX8_odds_63)
  (zc_nil)))))))))))))))))))))))))))))))))))))
theorem sd853_1 (F : zFx p l R s m args meth c D cid kv N0 xs Ls RX8 cX8_odds 6 n0 z0 nF zE d) (IH : zAllM l D cid kv N0 xs Ls d) (hQ : ∀ v h, Qq v h → v = r0 ∧ h = hF) (hn : nF = zN hF) (hz : zE = zZ hF) (hlocks : meth.locks = false) (hr : meth.sig.returnType = (some .long)) : zSoL p l e R s m args below meth c D cid kv N0 xs Ls 6 (MQ below (zQc D cid kv N0 xs Ls ρ0 r0 hF) args s (nF - n0) (zE - z0) (zA N0)) ρ0 n0 z0 nF zE Qq (zCall d) zt853_1 := zc_so (si_iinc F dX8_odds_65 rfl)
  (zc_so (si_goto F dX8_odds_68 rfl)
  (zc_so (si_aload_n F dX8_odds_71 rfl)
  (zc_so (si_iconst F dX8_odds_72 rfl)
  (zc_so (si_putI (k := 4) F rfl inT8 (by decide) (by decide) rfl rfl rfl rfl tyX8_ok nmX8 tb_708 dX8_odds_73)
  (zc_so (si_iload F dX8_odds_76)
  (zc_so (si_i2l F dX8_odds_78)
  (zc_so (si_ldc2_w F dX8_odds_79 tb_994)
  (zc_so (si_iload_n F dX8_odds_82 rfl)
  (zc_so (si_cS  F (IH 852 mm852) mp852 (by decide) tb_995 mi852 mn852 mc852 dX8_odds_83)
  (zc_so (si_rJ F hQ hn hz hlocks hr dX8_odds_86)
  (zc_nil)))))))))))
theorem sd853 (F : zFx p l R s m args meth c D cid kv N0 xs Ls RX8 cX8_odds 6 n0 z0 nF zE d) (IH : zAllM l D cid kv N0 xs Ls d) (hQ : ∀ v h, Qq v h → v = r0 ∧ h = hF) (hn : nF = zN hF) (hz : zE = zZ hF) (hlocks : meth.locks = false) (hr : meth.sig.returnType = (some .long)) (pc : Nat) : zSo p l e R s m args below meth c D cid kv N0 xs Ls 6 (MQ below (zQc D cid kv N0 xs Ls ρ0 r0 hF) args s (nF - n0) (zE - z0) (zA N0)) ρ0 n0 z0 nF zE Qq (zCall d) pc (zTab 853 pc) := zc_tab [zt853_0, zt853_1] (zc_cons (sd853_0 F IH hQ hn hz hlocks hr) (zc_cons (sd853_1 F IH hQ hn hz hlocks hr) zc_end))
theorem dX8_mean_0 : decode cX8_mean 0 = .ok (.iload_n 1, 1) := by decide +kernel
theorem dX8_mean_1 : decode cX8_mean 1 = .ok (.iconst 0, 1) := by decide +kernel
theorem dX8_mean_2 : decode cX8_mean 2 = .ok (.bipush 60, 2) := by decide +kernel
theorem dX8_mean_4 : decode cX8_mean 4 = .ok (.invokestatic 84, 3) := by decide +kernel
theorem dX8_mean_7 : decode cX8_mean 7 = .ok (.ifCond .eq 22, 3) := by decide +kernel
theorem dX8_mean_10 : decode cX8_mean 10 = .ok (.iload_n 2, 1) := by decide +kernel
theorem dX8_mean_11 : decode cX8_mean 11 = .ok (.iconst 0, 1) := by decide +kernel
theorem dX8_mean_12 : decode cX8_mean 12 = .ok (.iconst 1, 1) := by decide +kernel
theorem dX8_mean_13 : decode cX8_mean 13 = .ok (.invokestatic 84, 3) := by decide +kernel
theorem dX8_mean_16 : decode cX8_mean 16 = .ok (.ifCond .eq 13, 3) := by decide +kernel
theorem dX8_mean_19 : decode cX8_mean 19 = .ok (.aload_n 0, 1) := by decide +kernel
theorem dX8_mean_20 : decode cX8_mean 20 = .ok (.getfield 15, 3) := by decide +kernel
theorem dX8_mean_23 : decode cX8_mean 23 = .ok (.bipush 60, 2) := by decide +kernel
theorem dX8_mean_25 : decode cX8_mean 25 = .ok (.iaload, 1) := by decide +kernel
theorem dX8_mean_26 : decode cX8_mean 26 = .ok (.ifCond .ne 7, 3) := by decide +kernel
theorem dX8_mean_29 : decode cX8_mean 29 = .ok (.ldc2_w 220, 3) := by decide +kernel
theorem dX8_mean_32 : decode cX8_mean 32 = .ok (.lreturn, 1) := by decide +kernel
theorem dX8_mean_33 : decode cX8_mean 33 = .ok (.iconst 0, 1) := by decide +kernel
theorem dX8_mean_34 : decode cX8_mean 34 = .ok (.istore_n 3, 1) := by decide +kernel
theorem dX8_mean_35 : decode cX8_mean 35 = .ok (.iconst 0, 1) := by decide +kernel
theorem dX8_mean_36 : decode cX8_mean 36 = .ok (.istore 4, 2) := by decide +kernel
theorem dX8_mean_38 : decode cX8_mean 38 = .ok (.iload 4, 2) := by decide +kernel
theorem dX8_mean_40 : decode cX8_mean 40 = .ok (.aload_n 0, 1) := by decide +kernel
theorem dX8_mean_41 : decode cX8_mean 41 = .ok (.getfield 15, 3) := by decide +kernel
theorem dX8_mean_44 : decode cX8_mean 44 = .ok (.bipush 60, 2) := by decide +kernel
theorem dX8_mean_46 : decode cX8_mean 46 = .ok (.iaload, 1) := by decide +kernel
theorem dX8_mean_47 : decode cX8_mean 47 = .ok (.if_icmp .ge 22, 3) := by decide +kernel
theorem dX8_mean_50 : decode cX8_mean 50 = .ok (.iload_n 3, 1) := by decide +kernel
theorem dX8_mean_51 : decode cX8_mean 51 = .ok (.aload_n 0, 1) := by decide +kernel
theorem dX8_mean_52 : decode cX8_mean 52 = .ok (.iload_n 1, 1) := by decide +kernel
theorem dX8_mean_53 : decode cX8_mean 53 = .ok (.bipush 20, 2) := by decide +kernel
theorem dX8_mean_55 : decode cX8_mean 55 = .ok (.iload 4, 2) := by decide +kernel
theorem dX8_mean_57 : decode cX8_mean 57 = .ok (.iadd, 1) := by decide +kernel
theorem dX8_mean_58 : decode cX8_mean 58 = .ok (.invokevirtual 197, 3) := by decide +kernel
theorem dX8_mean_61 : decode cX8_mean 61 = .ok (.iadd, 1) := by decide +kernel
theorem dX8_mean_62 : decode cX8_mean 62 = .ok (.istore_n 3, 1) := by decide +kernel
theorem dX8_mean_63 : decode cX8_mean 63 = .ok (.iinc 4 1, 3) := by decide +kernel
theorem dX8_mean_66 : decode cX8_mean 66 = .ok (.goto (-28), 3) := by decide +kernel
theorem dX8_mean_69 : decode cX8_mean 69 = .ok (.iload_n 3, 1) := by decide +kernel
theorem dX8_mean_70 : decode cX8_mean 70 = .ok (.i2l, 1) := by decide +kernel
theorem dX8_mean_71 : decode cX8_mean 71 = .ok (.aload_n 0, 1) := by decide +kernel
theorem dX8_mean_72 : decode cX8_mean 72 = .ok (.getfield 15, 3) := by decide +kernel
theorem dX8_mean_75 : decode cX8_mean 75 = .ok (.bipush 60, 2) := by decide +kernel
theorem dX8_mean_77 : decode cX8_mean 77 = .ok (.iaload, 1) := by decide +kernel
theorem dX8_mean_78 : decode cX8_mean 78 = .ok (.i2l, 1) := by decide +kernel
theorem dX8_mean_79 : decode cX8_mean 79 = .ok (.iload_n 2, 1) := by decide +kernel
theorem dX8_mean_80 : decode cX8_mean 80 = .ok (.invokestatic 224, 3) := by decide +kernel
theorem dX8_mean_83 : decode cX8_mean 83 = .ok (.lreturn, 1) := by decide +kernel
theorem sd854_0 (F : zFx p l R s m args meth c D cid kv N0 xs Ls RX8 cX8_mean 5 n0 z0 nF zE d) (IH : zAllM l D cid kv N0 xs Ls d) (hQ : ∀ v h, Qq v h → v = r0 ∧ h = hF) (hn : nF = zN hF) (hz : zE = zZ hF) (hlocks : meth.locks = false) (hr : meth.sig.returnType = (some .long)) : zSoL p l e R s m args below meth c D cid kv N0 xs Ls 5 (MQ below (zQc D cid kv N0 xs Ls ρ0 r0 hF) args s (nF - n0) (zE - z0) (zA N0)) ρ0 n0 z0 nF zE Qq (zCall d) zt854_0 := zc_so (si_iload_n F dX8_mean_0 rfl)
  (zc_so (si_iconst F dX8_mean_1 rfl)
  (zc_so (si_bipush F dX8_mean_2 rfl)
  (zc_so (si_cS  F (IH 802 mm802) mp802 (by decide) tb_808 mi802 mn802 mc802 dX8_mean_4)
  (zc_so (si_ifeq F dX8_mean_7 rfl)
  (zc_so (si_iload_n F dX8_mean_10 rfl)
  (zc_so (si_iconst F dX8_mean_11 rfl)
  (zc_so (si_iconst F dX8_mean_12 rfl)
  (zc_so (si_cS  F (IH 802 mm802) mp802 (by decide) tb_808 mi802 mn802 mc802 dX8_mean_13)
  (zc_so (si_ifeq F dX8_mean_16 rfl)
  (zc_so (si_aload_n F dX8_mean_19 rfl)
  (zc_so (si_getR (k := 0) F rfl inT8 (by decide) (by decide) rfl rfl tb_704 dX8_mean_20)
  (zc_so (si_bipush F dX8_mean_23 rfl)
  (zc_so (si_iaload F dX8_mean_25)
  (zc_so (si_ifne F dX8_mean_26 rfl)
  (zc_so (si_ldc2_w F dX8_mean_29 tb_993)
  (zc_so (si_rJ F hQ hn hz hlocks hr dX8_mean_32)
  (zc_so (si_iconst F dX8_mean_33 rfl)
  (zc_so (si_istore_n F dX8_mean_34 rfl)
  (zc_so (si_iconst F dX8_mean_35 rfl)
  (zc_so (si_istore F dX8_mean_36)
  (zc_so (si_iload F dX8_mean_38)
  (zc_so (si_aload_n F dX8_mean_40 rfl)
  (zc_so (si_getR (k := 0) F rfl inT8 (by decide) (by decide) rfl rfl tb_704 dX8_mean_41)
  (zc_so (si_bipush F dX8_mean_44 rfl)
  (zc_so (si_iaload F dX8_mean_46)
  (zc_so (si_icge F dX8_mean_47 rfl)
  (zc_so (si_iload_n F dX8_mean_50 rfl)
  (zc_so (si_aload_n F dX8_mean_51 rfl)
  (zc_so (si_iload_n F dX8_mean_52 rfl)
  (zc_so (si_bipush F dX8_mean_53 rfl)
  (zc_so (si_iload F dX8_mean_55)
  (zc_so (si_iadd F dX8_mean_57)
  (zc_so (si_cV F (IH 841 mm841) mp841 (by decide) rfl rfl (by decide) tb_957 mi841 ms841 mn841 mc841 dX8_mean_58)
  (zc_so (si_iadd F dX8_mean_61)
  (zc_so (si_istore_n F dX8_mean_62 rfl)
  (zc_so (si_iinc F dX8_mean_63 rfl)
  (zc_nil)))))))))))))))))))))))))))))))))))))
theorem sd854_1 (F : zFx p l R s m args meth c D cid kv N0 xs Ls RX8 cX8_mean 5 n0 z0 nF zE d) (IH : zAllM l D cid kv N0 xs Ls d) (hQ : ∀ v h, Qq v h → v = r0 ∧ h = hF) (hn : nF = zN hF) (hz : zE = zZ hF) (hlocks : meth.locks = false) (hr : meth.sig.returnType = (some .long)) : zSoL p l e R s m args below meth c D cid kv N0 xs Ls 5 (MQ below (zQc D cid kv N0 xs Ls ρ0 r0 hF) args s (nF - n0) (zE - z0) (zA N0)) ρ0 n0 z0 nF zE Qq (zCall d) zt854_1 := zc_so (si_goto F dX8_mean_66 rfl)
  (zc_so (si_iload_n F dX8_mean_69 rfl)
  (zc_so (si_i2l F dX8_mean_70)
  (zc_so (si_aload_n F dX8_mean_71 rfl)
  (zc_so (si_getR (k := 0) F rfl inT8 (by decide) (by decide) rfl rfl tb_704 dX8_mean_72)
  (zc_so (si_bipush F dX8_mean_75 rfl)
  (zc_so (si_iaload F dX8_mean_77)
  (zc_so (si_i2l F dX8_mean_78)
  (zc_so (si_iload_n F dX8_mean_79 rfl)
  (zc_so (si_cS  F (IH 852 mm852) mp852 (by decide) tb_995 mi852 mn852 mc852 dX8_mean_80)
  (zc_so (si_rJ F hQ hn hz hlocks hr dX8_mean_83)
  (zc_nil)))))))))))
theorem sd854 (F : zFx p l R s m args meth c D cid kv N0 xs Ls RX8 cX8_mean 5 n0 z0 nF zE d) (IH : zAllM l D cid kv N0 xs Ls d) (hQ : ∀ v h, Qq v h → v = r0 ∧ h = hF) (hn : nF = zN hF) (hz : zE = zZ hF) (hlocks : meth.locks = false) (hr : meth.sig.returnType = (some .long)) (pc : Nat) : zSo p l e R s m args below meth c D cid kv N0 xs Ls 5 (MQ below (zQc D cid kv N0 xs Ls ρ0 r0 hF) args s (nF - n0) (zE - z0) (zA N0)) ρ0 n0 z0 nF zE Qq (zCall d) pc (zTab 854 pc) := zc_tab [zt854_0, zt854_1] (zc_cons (sd854_0 F IH hQ hn hz hlocks hr) (zc_cons (sd854_1 F IH hQ hn hz hlocks hr) zc_end))
theorem dX8_plan_0 : decode cX8_plan 0 = .ok (.iload_n 1, 1) := by decide +kernel
theorem dX8_plan_1 : decode cX8_plan 1 = .ok (.iconst (-1), 1) := by decide +kernel
theorem dX8_plan_2 : decode cX8_plan 2 = .ok (.if_icmp .ne 13, 3) := by decide +kernel
theorem dX8_plan_5 : decode cX8_plan 5 = .ok (.aload_n 0, 1) := by decide +kernel
theorem dX8_plan_6 : decode cX8_plan 6 = .ok (.getfield 15, 3) := by decide +kernel
theorem dX8_plan_9 : decode cX8_plan 9 = .ok (.bipush 80, 2) := by decide +kernel
theorem dX8_plan_11 : decode cX8_plan 11 = .ok (.iconst 0, 1) := by decide +kernel
theorem dX8_plan_12 : decode cX8_plan 12 = .ok (.iastore, 1) := by decide +kernel
theorem dX8_plan_13 : decode cX8_plan 13 = .ok (.iconst 0, 1) := by decide +kernel
theorem dX8_plan_14 : decode cX8_plan 14 = .ok (.ireturn, 1) := by decide +kernel
theorem dX8_plan_15 : decode cX8_plan 15 = .ok (.iload_n 1, 1) := by decide +kernel
theorem dX8_plan_16 : decode cX8_plan 16 = .ok (.iconst 0, 1) := by decide +kernel
theorem dX8_plan_17 : decode cX8_plan 17 = .ok (.iconst 3, 1) := by decide +kernel
theorem dX8_plan_18 : decode cX8_plan 18 = .ok (.invokestatic 84, 3) := by decide +kernel
theorem dX8_plan_21 : decode cX8_plan 21 = .ok (.ifCond .eq 15, 3) := by decide +kernel
theorem dX8_plan_24 : decode cX8_plan 24 = .ok (.iload_n 1, 1) := by decide +kernel
theorem dX8_plan_25 : decode cX8_plan 25 = .ok (.ifCond .le 13, 3) := by decide +kernel
theorem dX8_plan_28 : decode cX8_plan 28 = .ok (.aload_n 0, 1) := by decide +kernel
theorem dX8_plan_29 : decode cX8_plan 29 = .ok (.iload_n 2, 1) := by decide +kernel
theorem dX8_plan_30 : decode cX8_plan 30 = .ok (.invokevirtual 92, 3) := by decide +kernel
theorem dX8_plan_33 : decode cX8_plan 33 = .ok (.ifCond .ne 5, 3) := by decide +kernel
theorem dX8_plan_36 : decode cX8_plan 36 = .ok (.iconst (-1), 1) := by decide +kernel
theorem dX8_plan_37 : decode cX8_plan 37 = .ok (.ireturn, 1) := by decide +kernel
theorem dX8_plan_38 : decode cX8_plan 38 = .ok (.aload_n 0, 1) := by decide +kernel
theorem dX8_plan_39 : decode cX8_plan 39 = .ok (.getfield 15, 3) := by decide +kernel
theorem dX8_plan_42 : decode cX8_plan 42 = .ok (.bipush 80, 2) := by decide +kernel
theorem dX8_plan_44 : decode cX8_plan 44 = .ok (.iaload, 1) := by decide +kernel
theorem dX8_plan_45 : decode cX8_plan 45 = .ok (.bipush 10, 2) := by decide +kernel
theorem dX8_plan_47 : decode cX8_plan 47 = .ok (.if_icmp .ne 6, 3) := by decide +kernel
theorem dX8_plan_50 : decode cX8_plan 50 = .ok (.bipush (-4), 2) := by decide +kernel
theorem dX8_plan_52 : decode cX8_plan 52 = .ok (.ireturn, 1) := by decide +kernel
theorem dX8_plan_53 : decode cX8_plan 53 = .ok (.aload_n 0, 1) := by decide +kernel
theorem dX8_plan_54 : decode cX8_plan 54 = .ok (.getfield 15, 3) := by decide +kernel
theorem dX8_plan_57 : decode cX8_plan 57 = .ok (.bipush 81, 2) := by decide +kernel
theorem dX8_plan_59 : decode cX8_plan 59 = .ok (.iconst 2, 1) := by decide +kernel
theorem dX8_plan_60 : decode cX8_plan 60 = .ok (.aload_n 0, 1) := by decide +kernel
theorem dX8_plan_61 : decode cX8_plan 61 = .ok (.getfield 15, 3) := by decide +kernel
theorem dX8_plan_64 : decode cX8_plan 64 = .ok (.bipush 80, 2) := by decide +kernel
theorem dX8_plan_66 : decode cX8_plan 66 = .ok (.iaload, 1) := by decide +kernel
theorem dX8_plan_67 : decode cX8_plan 67 = .ok (.imul, 1) := by decide +kernel
theorem dX8_plan_68 : decode cX8_plan 68 = .ok (.iadd, 1) := by decide +kernel
theorem dX8_plan_69 : decode cX8_plan 69 = .ok (.iload_n 1, 1) := by decide +kernel
theorem dX8_plan_70 : decode cX8_plan 70 = .ok (.iastore, 1) := by decide +kernel
theorem dX8_plan_71 : decode cX8_plan 71 = .ok (.aload_n 0, 1) := by decide +kernel
theorem dX8_plan_72 : decode cX8_plan 72 = .ok (.getfield 15, 3) := by decide +kernel
theorem dX8_plan_75 : decode cX8_plan 75 = .ok (.bipush 82, 2) := by decide +kernel
theorem dX8_plan_77 : decode cX8_plan 77 = .ok (.iconst 2, 1) := by decide +kernel
theorem dX8_plan_78 : decode cX8_plan 78 = .ok (.aload_n 0, 1) := by decide +kernel
theorem dX8_plan_79 : decode cX8_plan 79 = .ok (.getfield 15, 3) := by decide +kernel
theorem dX8_plan_82 : decode cX8_plan 82 = .ok (.bipush 80, 2) := by decide +kernel
theorem dX8_plan_84 : decode cX8_plan 84 = .ok (.iaload, 1) := by decide +kernel
theorem dX8_plan_85 : decode cX8_plan 85 = .ok (.imul, 1) := by decide +kernel
theorem dX8_plan_86 : decode cX8_plan 86 = .ok (.iadd, 1) := by decide +kernel
theorem dX8_plan_87 : decode cX8_plan 87 = .ok (.iload_n 2, 1) := by decide +kernel
theorem dX8_plan_88 : decode cX8_plan 88 = .ok (.iastore, 1) := by decide +kernel
theorem dX8_plan_89 : decode cX8_plan 89 = .ok (.aload_n 0, 1) := by decide +kernel
theorem dX8_plan_90 : decode cX8_plan 90 = .ok (.getfield 15, 3) := by decide +kernel
theorem dX8_plan_93 : decode cX8_plan 93 = .ok (.bipush 80, 2) := by decide +kernel
theorem dX8_plan_95 : decode cX8_plan 95 = .ok (.dup2, 1) := by decide +kernel
theorem dX8_plan_96 : decode cX8_plan 96 = .ok (.iaload, 1) := by decide +kernel
theorem dX8_plan_97 : decode cX8_plan 97 = .ok (.iconst 1, 1) := by decide +kernel
theorem dX8_plan_98 : decode cX8_plan 98 = .ok (.iadd, 1) := by decide +kernel
theorem dX8_plan_99 : decode cX8_plan 99 = .ok (.iastore, 1) := by decide +kernel
theorem dX8_plan_100 : decode cX8_plan 100 = .ok (.aload_n 0, 1) := by decide +kernel
theorem dX8_plan_101 : decode cX8_plan 101 = .ok (.getfield 15, 3) := by decide +kernel
theorem dX8_plan_104 : decode cX8_plan 104 = .ok (.bipush 80, 2) := by decide +kernel
theorem dX8_plan_106 : decode cX8_plan 106 = .ok (.iaload, 1) := by decide +kernel
theorem dX8_plan_107 : decode cX8_plan 107 = .ok (.ireturn, 1) := by decide +kernel
theorem sd855_0 (F : zFx p l R s m args meth c D cid kv N0 xs Ls RX8 cX8_plan 3 n0 z0 nF zE d) (IH : zAllM l D cid kv N0 xs Ls d) (hQ : ∀ v h, Qq v h → v = r0 ∧ h = hF) (hn : nF = zN hF) (hz : zE = zZ hF) (hlocks : meth.locks = false) (hr : meth.sig.returnType = (some .int)) : zSoL p l e R s m args below meth c D cid kv N0 xs Ls 3 (MQ below (zQc D cid kv N0 xs Ls ρ0 r0 hF) args s (nF - n0) (zE - z0) (zA N0)) ρ0 n0 z0 nF zE Qq (zCall d) zt855_0 := zc_so (si_iload_n F dX8_plan_0 rfl)
  (zc_so (si_iconst F dX8_plan_1 rfl)
  (zc_so (si_icne F dX8_plan_2 rfl)
  (zc_so (si_aload_n F dX8_plan_5 rfl)
  (zc_so (si_getR (k := 0) F rfl inT8 (by decide) (by decide) rfl rfl tb_704 dX8_plan_6)
  (zc_so (si_bipush F dX8_plan_9 rfl)
  (zc_so (si_iconst F dX8_plan_11 rfl)
  (zc_so (si_iastore F dX8_plan_12)
  (zc_so (si_iconst F dX8_plan_13 rfl)
  (zc_so (si_rI F hQ hn hz hlocks hr (fun _ _ => rfl) dX8_plan_14)
  (zc_so (si_iload_n F dX8_plan_15 rfl)
  (zc_so (si_iconst F dX8_plan_16 rfl)
  (zc_so (si_iconst F dX8_plan_17 rfl)
  (zc_so (si_cS  F (IH 802 mm802) mp802 (by decide) tb_808 mi802 mn802 mc802 dX8_plan_18)
  (zc_so (si_ifeq F dX8_plan_21 rfl)
  (zc_so (si_iload_n F dX8_plan_24 rfl)
  (zc_so (si_ifle F dX8_plan_25 rfl)
  (zc_so (si_aload_n F dX8_plan_28 rfl)
  (zc_so (si_iload_n F dX8_plan_29 rfl)
  (zc_so (si_cV F (IH 807 mm807) mp807 (by decide) rfl rfl (by decide) tb_815 mi807 ms807 mn807 mc807 dX8_plan_30)
  (zc_so (si_ifne F dX8_plan_33 rfl)
  (zc_so (si_iconst F dX8_plan_36 rfl)
  (zc_so (si_rI F hQ hn hz hlocks hr (fun _ _ => rfl) dX8_plan_37)
  (zc_so (si_aload_n F dX8_plan_38 rfl)
  (zc_so (si_getR (k := 0) F rfl inT8 (by decide) (by decide) rfl rfl tb_704 dX8_plan_39)
  (zc_so (si_bipush F dX8_plan_42 rfl)
  (zc_so (si_iaload F dX8_plan_44)
  (zc_so (si_bipush F dX8_plan_45 rfl)
  (zc_so (si_icne F dX8_plan_47 rfl)
  (zc_so (si_bipush F dX8_plan_50 rfl)
  (zc_so (si_rI F hQ hn hz hlocks hr (fun _ _ => rfl) dX8_plan_52)
  (zc_so (si_aload_n F dX8_plan_53 rfl)
  (zc_so (si_getR (k := 0) F rfl inT8 (by decide) (by decide) rfl rfl tb_704 dX8_plan_54)
  (zc_so (si_bipush F dX8_plan_57 rfl)
  (zc_so (si_iconst F dX8_plan_59 rfl)
  (zc_so (si_aload_n F dX8_plan_60 rfl)
  (zc_so (si_getR (k := 0) F rfl inT8 (by decide) (by decide) rfl rfl tb_704 dX8_plan_61)
  (zc_nil)))))))))))))))))))))))))))))))))))))
theorem sd855_1 (F : zFx p l R s m args meth c D cid kv N0 xs Ls RX8 cX8_plan 3 n0 z0 nF zE d) (IH : zAllM l D cid kv N0 xs Ls d) (hQ : ∀ v h, Qq v h → v = r0 ∧ h = hF) (hn : nF = zN hF) (hz : zE = zZ hF) (hlocks : meth.locks = false) (hr : meth.sig.returnType = (some .int)) : zSoL p l e R s m args below meth c D cid kv N0 xs Ls 3 (MQ below (zQc D cid kv N0 xs Ls ρ0 r0 hF) args s (nF - n0) (zE - z0) (zA N0)) ρ0 n0 z0 nF zE Qq (zCall d) zt855_1 := zc_so (si_bipush F dX8_plan_64 rfl)
  (zc_so (si_iaload F dX8_plan_66)
  (zc_so (si_imul F dX8_plan_67)
  (zc_so (si_iadd F dX8_plan_68)
  (zc_so (si_iload_n F dX8_plan_69 rfl)
  (zc_so (si_iastore F dX8_plan_70)
  (zc_so (si_aload_n F dX8_plan_71 rfl)
  (zc_so (si_getR (k := 0) F rfl inT8 (by decide) (by decide) rfl rfl tb_704 dX8_plan_72)
  (zc_so (si_bipush F dX8_plan_75 rfl)
  (zc_so (si_iconst F dX8_plan_77 rfl)
  (zc_so (si_aload_n F dX8_plan_78 rfl)
  (zc_so (si_getR (k := 0) F rfl inT8 (by decide) (by decide) rfl rfl tb_704 dX8_plan_79)
  (zc_so (si_bipush F dX8_plan_82 rfl)
  (zc_so (si_iaload F dX8_plan_84)
  (zc_so (si_imul F dX8_plan_85)
  (zc_so (si_iadd F dX8_plan_86)
  (zc_so (si_iload_n F dX8_plan_87 rfl)
  (zc_so (si_iastore F dX8_plan_88)
  (zc_so (si_aload_n F dX8_plan_89 rfl)
  (zc_so (si_getR (k := 0) F rfl inT8 (by decide) (by decide) rfl rfl tb_704 dX8_plan_90)
  (zc_so (si_bipush F dX8_plan_93 rfl)
  (zc_so (si_dup2 F dX8_plan_95)
  (zc_so (si_iaload F dX8_plan_96)
  (zc_so (si_iconst F dX8_plan_97 rfl)
  (zc_so (si_iadd F dX8_plan_98)
  (zc_so (si_iastore F dX8_plan_99)
  (zc_so (si_aload_n F dX8_plan_100 rfl)
  (zc_so (si_getR (k := 0) F rfl inT8 (by decide) (by decide) rfl rfl tb_704 dX8_plan_101)
  (zc_so (si_bipush F dX8_plan_104 rfl)
  (zc_so (si_iaload F dX8_plan_106)
  (zc_so (si_rI F hQ hn hz hlocks hr (fun _ _ => rfl) dX8_plan_107)
  (zc_nil)))))))))))))))))))))))))))))))
theorem sd855 (F : zFx p l R s m args meth c D cid kv N0 xs Ls RX8 cX8_plan 3 n0 z0 nF zE d) (IH : zAllM l D cid kv N0 xs Ls d) (hQ : ∀ v h, Qq v h → v = r0 ∧ h = hF) (hn : nF = zN hF) (hz : zE = zZ hF) (hlocks : meth.locks = false) (hr : meth.sig.returnType = (some .int)) (pc : Nat) : zSo p l e R s m args below meth c D cid kv N0 xs Ls 3 (MQ below (zQc D cid kv N0 xs Ls ρ0 r0 hF) args s (nF - n0) (zE - z0) (zA N0)) ρ0 n0 z0 nF zE Qq (zCall d) pc (zTab 855 pc) := zc_tab [zt855_0, zt855_1] (zc_cons (sd855_0 F IH hQ hn hz hlocks hr) (zc_cons (sd855_1 F IH hQ hn hz hlocks hr) zc_end))
theorem dX8_happens_0 : decode cX8_happens 0 = .ok (.iload_n 1, 1) := by decide +kernel
theorem dX8_happens_1 : decode cX8_happens 1 = .ok (.ifCond .ne 10, 3) := by decide +kernel
theorem dX8_happens_4 : decode cX8_happens 4 = .ok (.aload_n 0, 1) := by decide +kernel
theorem dX8_happens_5 : decode cX8_happens 5 = .ok (.invokevirtual 182, 3) := by decide +kernel
theorem dX8_happens_8 : decode cX8_happens 8 = .ok (.goto 72, 3) := by decide +kernel
theorem dX8_happens_11 : decode cX8_happens 11 = .ok (.iload_n 1, 1) := by decide +kernel
theorem dX8_happens_12 : decode cX8_happens 12 = .ok (.iconst 1, 1) := by decide +kernel
theorem dX8_happens_13 : decode cX8_happens 13 = .ok (.if_icmp .ne 22, 3) := by decide +kernel
theorem dX8_happens_16 : decode cX8_happens 16 = .ok (.aload_n 0, 1) := by decide +kernel
theorem dX8_happens_17 : decode cX8_happens 17 = .ok (.iload_n 2, 1) := by decide +kernel
theorem dX8_happens_18 : decode cX8_happens 18 = .ok (.iconst 3, 1) := by decide +kernel
theorem dX8_happens_19 : decode cX8_happens 19 = .ok (.iconst 0, 1) := by decide +kernel
theorem dX8_happens_20 : decode cX8_happens 20 = .ok (.invokevirtual 103, 3) := by decide +kernel
theorem dX8_happens_23 : decode cX8_happens 23 = .ok (.pop, 1) := by decide +kernel
theorem dX8_happens_24 : decode cX8_happens 24 = .ok (.aload_n 0, 1) := by decide +kernel
theorem dX8_happens_25 : decode cX8_happens 25 = .ok (.iload_n 2, 1) := by decide +kernel
theorem dX8_happens_26 : decode cX8_happens 26 = .ok (.iconst 4, 1) := by decide +kernel
theorem dX8_happens_27 : decode cX8_happens 27 = .ok (.iconst 0, 1) := by decide +kernel
theorem dX8_happens_28 : decode cX8_happens 28 = .ok (.invokevirtual 103, 3) := by decide +kernel
theorem dX8_happens_31 : decode cX8_happens 31 = .ok (.pop, 1) := by decide +kernel
theorem dX8_happens_32 : decode cX8_happens 32 = .ok (.goto 48, 3) := by decide +kernel
theorem dX8_happens_35 : decode cX8_happens 35 = .ok (.iload_n 1, 1) := by decide +kernel
theorem dX8_happens_36 : decode cX8_happens 36 = .ok (.iconst 2, 1) := by decide +kernel
theorem dX8_happens_37 : decode cX8_happens 37 = .ok (.if_icmp .ne 27, 3) := by decide +kernel
theorem dX8_happens_40 : decode cX8_happens 40 = .ok (.aload_n 0, 1) := by decide +kernel
theorem dX8_happens_41 : decode cX8_happens 41 = .ok (.iload_n 2, 1) := by decide +kernel
theorem dX8_happens_42 : decode cX8_happens 42 = .ok (.iconst 2, 1) := by decide +kernel
theorem dX8_happens_43 : decode cX8_happens 43 = .ok (.bipush 99, 2) := by decide +kernel
theorem dX8_happens_45 : decode cX8_happens 45 = .ok (.aload_n 0, 1) := by decide +kernel
theorem dX8_happens_46 : decode cX8_happens 46 = .ok (.iload_n 2, 1) := by decide +kernel
theorem dX8_happens_47 : decode cX8_happens 47 = .ok (.iconst 2, 1) := by decide +kernel
theorem dX8_happens_48 : decode cX8_happens 48 = .ok (.invokevirtual 88, 3) := by decide +kernel
theorem dX8_happens_51 : decode cX8_happens 51 = .ok (.bipush 10, 2) := by decide +kernel
theorem dX8_happens_53 : decode cX8_happens 53 = .ok (.iadd, 1) := by decide +kernel
theorem dX8_happens_54 : decode cX8_happens 54 = .ok (.invokestatic 171, 3) := by decide +kernel
theorem dX8_happens_57 : decode cX8_happens 57 = .ok (.invokevirtual 103, 3) := by decide +kernel
theorem dX8_happens_60 : decode cX8_happens 60 = .ok (.pop, 1) := by decide +kernel
theorem dX8_happens_61 : decode cX8_happens 61 = .ok (.goto 19, 3) := by decide +kernel
theorem dX8_happens_64 : decode cX8_happens 64 = .ok (.aload_n 0, 1) := by decide +kernel
theorem dX8_happens_65 : decode cX8_happens 65 = .ok (.iload_n 2, 1) := by decide +kernel
theorem dX8_happens_66 : decode cX8_happens 66 = .ok (.invokevirtual 107, 3) := by decide +kernel
theorem dX8_happens_69 : decode cX8_happens 69 = .ok (.ifCond .eq 11, 3) := by decide +kernel
theorem dX8_happens_72 : decode cX8_happens 72 = .ok (.aload_n 0, 1) := by decide +kernel
theorem dX8_happens_73 : decode cX8_happens 73 = .ok (.iload_n 2, 1) := by decide +kernel
theorem dX8_happens_74 : decode cX8_happens 74 = .ok (.iconst 4, 1) := by decide +kernel
theorem dX8_happens_75 : decode cX8_happens 75 = .ok (.iconst 1, 1) := by decide +kernel
theorem dX8_happens_76 : decode cX8_happens 76 = .ok (.invokevirtual 103, 3) := by decide +kernel
theorem dX8_happens_79 : decode cX8_happens 79 = .ok (.pop, 1) := by decide +kernel
theorem dX8_happens_80 : decode cX8_happens 80 = .ok (.return_, 1) := by decide +kernel
theorem sd856_0 (F : zFx p l R s m args meth c D cid kv N0 xs Ls RX8 cX8_happens 3 n0 z0 nF zE d) (IH : zAllM l D cid kv N0 xs Ls d) (hQ : ∀ v h, Qq v h → v = r0 ∧ h = hF) (hn : nF = zN hF) (hz : zE = zZ hF) (hlocks : meth.locks = false) (hr : meth.sig.returnType = none) : zSoL p l e R s m args below meth c D cid kv N0 xs Ls 3 (MQ below (zQc D cid kv N0 xs Ls ρ0 r0 hF) args s (nF - n0) (zE - z0) (zA N0)) ρ0 n0 z0 nF zE Qq (zCall d) zt856_0 := zc_so (si_iload_n F dX8_happens_0 rfl)
  (zc_so (si_ifne F dX8_happens_1 rfl)
  (zc_so (si_aload_n F dX8_happens_4 rfl)
  (zc_so (si_cV F (IH 833 mm833) mp833 (by decide) rfl rfl (by decide) tb_880 mi833 ms833 mn833 mc833 dX8_happens_5)
  (zc_so (si_goto F dX8_happens_8 rfl)
  (zc_so (si_iload_n F dX8_happens_11 rfl)
  (zc_so (si_iconst F dX8_happens_12 rfl)
  (zc_so (si_icne F dX8_happens_13 rfl)
  (zc_so (si_aload_n F dX8_happens_16 rfl)
  (zc_so (si_iload_n F dX8_happens_17 rfl)
  (zc_so (si_iconst F dX8_happens_18 rfl)
  (zc_so (si_iconst F dX8_happens_19 rfl)
  (zc_so (si_cV F (IH 809 mm809) mp809 (by decide) rfl rfl (by decide) tb_888 mi809 ms809 mn809 mc809 dX8_happens_20)
  (zc_so (si_pop F dX8_happens_23)
  (zc_so (si_aload_n F dX8_happens_24 rfl)
  (zc_so (si_iload_n F dX8_happens_25 rfl)
  (zc_so (si_iconst F dX8_happens_26 rfl)
  (zc_so (si_iconst F dX8_happens_27 rfl)
  (zc_so (si_cV F (IH 809 mm809) mp809 (by decide) rfl rfl (by decide) tb_888 mi809 ms809 mn809 mc809 dX8_happens_28)
  (zc_so (si_pop F dX8_happens_31)
  (zc_so (si_goto F dX8_happens_32 rfl)
  (zc_so (si_iload_n F dX8_happens_35 rfl)
  (zc_so (si_iconst F dX8_happens_36 rfl)
  (zc_so (si_icne F dX8_happens_37 rfl)
  (zc_so (si_aload_n F dX8_happens_40 rfl)
  (zc_so (si_iload_n F dX8_happens_41 rfl)
  (zc_so (si_iconst F dX8_happens_42 rfl)
  (zc_so (si_bipush F dX8_happens_43 rfl)
  (zc_so (si_aload_n F dX8_happens_45 rfl)
  (zc_so (si_iload_n F dX8_happens_46 rfl)
  (zc_so (si_iconst F dX8_happens_47 rfl)
  (zc_so (si_cV F (IH 808 mm808) mp808 (by decide) rfl rfl (by decide) tb_819 mi808 ms808 mn808 mc808 dX8_happens_48)
  (zc_so (si_bipush F dX8_happens_51 rfl)
  (zc_so (si_iadd F dX8_happens_53)
  (zc_so (si_min F tb_871 tb_298 tb_5 tb_299 dX8_happens_54)
  (zc_so (si_cV F (IH 809 mm809) mp809 (by decide) rfl rfl (by decide) tb_888 mi809 ms809 mn809 mc809 dX8_happens_57)
  (zc_so (si_pop F dX8_happens_60)
  (zc_so (si_goto F dX8_happens_61 rfl)
  (zc_nil))))))))))))))))))))))))))))))))))))))
theorem sd856_1 (F : zFx p l R s m args meth c D cid kv N0 xs Ls RX8 cX8_happens 3 n0 z0 nF zE d) (IH : zAllM l D cid kv N0 xs Ls d) (hQ : ∀ v h, Qq v h → v = r0 ∧ h = hF) (hn : nF = zN hF) (hz : zE = zZ hF) (hlocks : meth.locks = false) (hr : meth.sig.returnType = none) : zSoL p l e R s m args below meth c D cid kv N0 xs Ls 3 (MQ below (zQc D cid kv N0 xs Ls ρ0 r0 hF) args s (nF - n0) (zE - z0) (zA N0)) ρ0 n0 z0 nF zE Qq (zCall d) zt856_1 := zc_so (si_aload_n F dX8_happens_64 rfl)
  (zc_so (si_iload_n F dX8_happens_65 rfl)
  (zc_so (si_cV F (IH 813 mm813) mp813 (by decide) rfl rfl (by decide) tb_900 mi813 ms813 mn813 mc813 dX8_happens_66)
  (zc_so (si_ifeq F dX8_happens_69 rfl)
  (zc_so (si_aload_n F dX8_happens_72 rfl)
  (zc_so (si_iload_n F dX8_happens_73 rfl)
  (zc_so (si_iconst F dX8_happens_74 rfl)
  (zc_so (si_iconst F dX8_happens_75 rfl)
  (zc_so (si_cV F (IH 809 mm809) mp809 (by decide) rfl rfl (by decide) tb_888 mi809 ms809 mn809 mc809 dX8_happens_76)
  (zc_so (si_pop F dX8_happens_79)
  (zc_so (si_rV F hQ hn hz hlocks hr dX8_happens_80)
  (zc_nil)))))))))))
theorem sd856 (F : zFx p l R s m args meth c D cid kv N0 xs Ls RX8 cX8_happens 3 n0 z0 nF zE d) (IH : zAllM l D cid kv N0 xs Ls d) (hQ : ∀ v h, Qq v h → v = r0 ∧ h = hF) (hn : nF = zN hF) (hz : zE = zZ hF) (hlocks : meth.locks = false) (hr : meth.sig.returnType = none) (pc : Nat) : zSo p l e R s m args below meth c D cid kv N0 xs Ls 3 (MQ below (zQc D cid kv N0 xs Ls ρ0 r0 hF) args s (nF - n0) (zE - z0) (zA N0)) ρ0 n0 z0 nF zE Qq (zCall d) pc (zTab 856 pc) := zc_tab [zt856_0, zt856_1] (zc_cons (sd856_0 F IH hQ hn hz hlocks hr) (zc_cons (sd856_1 F IH hQ hn hz hlocks hr) zc_end))
theorem dX8_ends_0 : decode cX8_ends 0 = .ok (.iload_n 1, 1) := by decide +kernel
theorem dX8_ends_1 : decode cX8_ends 1 = .ok (.iconst 0, 1) := by decide +kernel
theorem dX8_ends_2 : decode cX8_ends 2 = .ok (.iconst 1, 1) := by decide +kernel
theorem dX8_ends_3 : decode cX8_ends 3 = .ok (.invokestatic 84, 3) := by decide +kernel
theorem dX8_ends_6 : decode cX8_ends 6 = .ok (.ifCond .ne 5, 3) := by decide +kernel
theorem dX8_ends_9 : decode cX8_ends 9 = .ok (.iconst (-1), 1) := by decide +kernel
theorem dX8_ends_10 : decode cX8_ends 10 = .ok (.ireturn, 1) := by decide +kernel
theorem dX8_ends_11 : decode cX8_ends 11 = .ok (.aload_n 0, 1) := by decide +kernel
theorem dX8_ends_12 : decode cX8_ends 12 = .ok (.getfield 15, 3) := by decide +kernel
theorem dX8_ends_15 : decode cX8_ends 15 = .ok (.aload_n 0, 1) := by decide +kernel
theorem dX8_ends_16 : decode cX8_ends 16 = .ok (.getfield 19, 3) := by decide +kernel
theorem dX8_ends_19 : decode cX8_ends 19 = .ok (.invokestatic 80, 3) := by decide +kernel
theorem dX8_ends_22 : decode cX8_ends 22 = .ok (.iconst 0, 1) := by decide +kernel
theorem dX8_ends_23 : decode cX8_ends 23 = .ok (.istore_n 2, 1) := by decide +kernel
theorem dX8_ends_24 : decode cX8_ends 24 = .ok (.iload_n 2, 1) := by decide +kernel
theorem dX8_ends_25 : decode cX8_ends 25 = .ok (.aload_n 0, 1) := by decide +kernel
theorem dX8_ends_26 : decode cX8_ends 26 = .ok (.getfield 15, 3) := by decide +kernel
theorem dX8_ends_29 : decode cX8_ends 29 = .ok (.bipush 80, 2) := by decide +kernel
theorem dX8_ends_31 : decode cX8_ends 31 = .ok (.iaload, 1) := by decide +kernel
theorem dX8_ends_32 : decode cX8_ends 32 = .ok (.if_icmp .ge 35, 3) := by decide +kernel
theorem dX8_ends_35 : decode cX8_ends 35 = .ok (.aload_n 0, 1) := by decide +kernel
theorem dX8_ends_36 : decode cX8_ends 36 = .ok (.aload_n 0, 1) := by decide +kernel
theorem dX8_ends_37 : decode cX8_ends 37 = .ok (.getfield 15, 3) := by decide +kernel
theorem dX8_ends_40 : decode cX8_ends 40 = .ok (.bipush 81, 2) := by decide +kernel
theorem dX8_ends_42 : decode cX8_ends 42 = .ok (.iconst 2, 1) := by decide +kernel
theorem dX8_ends_43 : decode cX8_ends 43 = .ok (.iload_n 2, 1) := by decide +kernel
theorem dX8_ends_44 : decode cX8_ends 44 = .ok (.imul, 1) := by decide +kernel
theorem dX8_ends_45 : decode cX8_ends 45 = .ok (.iadd, 1) := by decide +kernel
theorem dX8_ends_46 : decode cX8_ends 46 = .ok (.iaload, 1) := by decide +kernel
theorem dX8_ends_47 : decode cX8_ends 47 = .ok (.aload_n 0, 1) := by decide +kernel
theorem dX8_ends_48 : decode cX8_ends 48 = .ok (.getfield 15, 3) := by decide +kernel
theorem dX8_ends_51 : decode cX8_ends 51 = .ok (.bipush 82, 2) := by decide +kernel
theorem dX8_ends_53 : decode cX8_ends 53 = .ok (.iconst 2, 1) := by decide +kernel
theorem dX8_ends_54 : decode cX8_ends 54 = .ok (.iload_n 2, 1) := by decide +kernel
theorem dX8_ends_55 : decode cX8_ends 55 = .ok (.imul, 1) := by decide +kernel
theorem dX8_ends_56 : decode cX8_ends 56 = .ok (.iadd, 1) := by decide +kernel
theorem dX8_ends_57 : decode cX8_ends 57 = .ok (.iaload, 1) := by decide +kernel
theorem dX8_ends_58 : decode cX8_ends 58 = .ok (.invokevirtual 228, 3) := by decide +kernel
theorem dX8_ends_61 : decode cX8_ends 61 = .ok (.iinc 2 1, 3) := by decide +kernel
theorem dX8_ends_64 : decode cX8_ends 64 = .ok (.goto (-40), 3) := by decide +kernel
theorem dX8_ends_67 : decode cX8_ends 67 = .ok (.iload_n 1, 1) := by decide +kernel
theorem dX8_ends_68 : decode cX8_ends 68 = .ok (.ifCond .ne 13, 3) := by decide +kernel
theorem dX8_ends_71 : decode cX8_ends 71 = .ok (.aload_n 0, 1) := by decide +kernel
theorem dX8_ends_72 : decode cX8_ends 72 = .ok (.getfield 15, 3) := by decide +kernel
theorem dX8_ends_75 : decode cX8_ends 75 = .ok (.bipush 61, 2) := by decide +kernel
theorem dX8_ends_77 : decode cX8_ends 77 = .ok (.iaload, 1) := by decide +kernel
theorem dX8_ends_78 : decode cX8_ends 78 = .ok (.goto 9, 3) := by decide +kernel
theorem dX8_ends_81 : decode cX8_ends 81 = .ok (.aload_n 0, 1) := by decide +kernel
theorem dX8_ends_82 : decode cX8_ends 82 = .ok (.bipush 10, 2) := by decide +kernel
theorem dX8_ends_84 : decode cX8_ends 84 = .ok (.invokevirtual 188, 3) := by decide +kernel
theorem dX8_ends_87 : decode cX8_ends 87 = .ok (.istore_n 2, 1) := by decide +kernel
theorem dX8_ends_88 : decode cX8_ends 88 = .ok (.aload_n 0, 1) := by decide +kernel
theorem dX8_ends_89 : decode cX8_ends 89 = .ok (.getfield 19, 3) := by decide +kernel
theorem dX8_ends_92 : decode cX8_ends 92 = .ok (.aload_n 0, 1) := by decide +kernel
theorem dX8_ends_93 : decode cX8_ends 93 = .ok (.getfield 15, 3) := by decide +kernel
theorem dX8_ends_96 : decode cX8_ends 96 = .ok (.invokestatic 80, 3) := by decide +kernel
theorem dX8_ends_99 : decode cX8_ends 99 = .ok (.iload_n 2, 1) := by decide +kernel
theorem dX8_ends_100 : decode cX8_ends 100 = .ok (.ireturn, 1) := by decide +kernel
theorem sd857_0 (F : zFx p l R s m args meth c D cid kv N0 xs Ls RX8 cX8_ends 3 n0 z0 nF zE d) (IH : zAllM l D cid kv N0 xs Ls d) (hQ : ∀ v h, Qq v h → v = r0 ∧ h = hF) (hn : nF = zN hF) (hz : zE = zZ hF) (hlocks : meth.locks = false) (hr : meth.sig.returnType = (some .int)) : zSoL p l e R s m args below meth c D cid kv N0 xs Ls 3 (MQ below (zQc D cid kv N0 xs Ls ρ0 r0 hF) args s (nF - n0) (zE - z0) (zA N0)) ρ0 n0 z0 nF zE Qq (zCall d) zt857_0 := zc_so (si_iload_n F dX8_ends_0 rfl)
  (zc_so (si_iconst F dX8_ends_1 rfl)
  (zc_so (si_iconst F dX8_ends_2 rfl)
  (zc_so (si_cS  F (IH 802 mm802) mp802 (by decide) tb_808 mi802 mn802 mc802 dX8_ends_3)
  (zc_so (si_ifne F dX8_ends_6 rfl)
  (zc_so (si_iconst F dX8_ends_9 rfl)
  (zc_so (si_rI F hQ hn hz hlocks hr (fun _ _ => rfl) dX8_ends_10)
  (zc_so (si_aload_n F dX8_ends_11 rfl)
  (zc_so (si_getR (k := 0) F rfl inT8 (by decide) (by decide) rfl rfl tb_704 dX8_ends_12)
  (zc_so (si_aload_n F dX8_ends_15 rfl)
  (zc_so (si_getR (k := 1) F rfl inT8 (by decide) (by decide) rfl rfl tb_705 dX8_ends_16)
  (zc_so (si_cS  F (IH 804 mm804) mp804 (by decide) tb_797 mi804 mn804 mc804 dX8_ends_19)
  (zc_so (si_iconst F dX8_ends_22 rfl)
  (zc_so (si_istore_n F dX8_ends_23 rfl)
  (zc_so (si_iload_n F dX8_ends_24 rfl)
  (zc_so (si_aload_n F dX8_ends_25 rfl)
  (zc_so (si_getR (k := 0) F rfl inT8 (by decide) (by decide) rfl rfl tb_704 dX8_ends_26)
  (zc_so (si_bipush F dX8_ends_29 rfl)
  (zc_so (si_iaload F dX8_ends_31)
  (zc_so (si_icge F dX8_ends_32 rfl)
  (zc_so (si_aload_n F dX8_ends_35 rfl)
  (zc_so (si_aload_n F dX8_ends_36 rfl)
  (zc_so (si_getR (k := 0) F rfl inT8 (by decide) (by decide) rfl rfl tb_704 dX8_ends_37)
  (zc_so (si_bipush F dX8_ends_40 rfl)
  (zc_so (si_iconst F dX8_ends_42 rfl)
  (zc_so (si_iload_n F dX8_ends_43 rfl)
  (zc_so (si_imul F dX8_ends_44)
  (zc_so (si_iadd F dX8_ends_45)
  (zc_so (si_iaload F dX8_ends_46)
  (zc_so (si_aload_n F dX8_ends_47 rfl)
  (zc_so (si_getR (k := 0) F rfl inT8 (by decide) (by decide) rfl rfl tb_704 dX8_ends_48)
  (zc_so (si_bipush F dX8_ends_51 rfl)
  (zc_so (si_iconst F dX8_ends_53 rfl)
  (zc_so (si_iload_n F dX8_ends_54 rfl)
  (zc_so (si_imul F dX8_ends_55)
  (zc_so (si_iadd F dX8_ends_56)
  (zc_so (si_iaload F dX8_ends_57)
  (zc_so (si_cV F (IH 856 mm856) mp856 (by decide) rfl rfl (by decide) tb_1010 mi856 ms856 mn856 mc856 dX8_ends_58)
  (zc_so (si_iinc F dX8_ends_61 rfl)
  (zc_nil)))))))))))))))))))))))))))))))))))))))
theorem sd857_1 (F : zFx p l R s m args meth c D cid kv N0 xs Ls RX8 cX8_ends 3 n0 z0 nF zE d) (IH : zAllM l D cid kv N0 xs Ls d) (hQ : ∀ v h, Qq v h → v = r0 ∧ h = hF) (hn : nF = zN hF) (hz : zE = zZ hF) (hlocks : meth.locks = false) (hr : meth.sig.returnType = (some .int)) : zSoL p l e R s m args below meth c D cid kv N0 xs Ls 3 (MQ below (zQc D cid kv N0 xs Ls ρ0 r0 hF) args s (nF - n0) (zE - z0) (zA N0)) ρ0 n0 z0 nF zE Qq (zCall d) zt857_1 := zc_so (si_goto F dX8_ends_64 rfl)
  (zc_so (si_iload_n F dX8_ends_67 rfl)
  (zc_so (si_ifne F dX8_ends_68 rfl)
  (zc_so (si_aload_n F dX8_ends_71 rfl)
  (zc_so (si_getR (k := 0) F rfl inT8 (by decide) (by decide) rfl rfl tb_704 dX8_ends_72)
  (zc_so (si_bipush F dX8_ends_75 rfl)
  (zc_so (si_iaload F dX8_ends_77)
  (zc_so (si_goto F dX8_ends_78 rfl)
  (zc_so (si_aload_n F dX8_ends_81 rfl)
  (zc_so (si_bipush F dX8_ends_82 rfl)
  (zc_so (si_cV F (IH 835 mm835) mp835 (by decide) rfl rfl (by decide) tb_929 mi835 ms835 mn835 mc835 dX8_ends_84)
  (zc_so (si_istore_n F dX8_ends_87 rfl)
  (zc_so (si_aload_n F dX8_ends_88 rfl)
  (zc_so (si_getR (k := 1) F rfl inT8 (by decide) (by decide) rfl rfl tb_705 dX8_ends_89)
  (zc_so (si_aload_n F dX8_ends_92 rfl)
  (zc_so (si_getR (k := 0) F rfl inT8 (by decide) (by decide) rfl rfl tb_704 dX8_ends_93)
  (zc_so (si_cS  F (IH 804 mm804) mp804 (by decide) tb_797 mi804 mn804 mc804 dX8_ends_96)
  (zc_so (si_iload_n F dX8_ends_99 rfl)
  (zc_so (si_rI F hQ hn hz hlocks hr (fun _ _ => rfl) dX8_ends_100)
  (zc_nil)))))))))))))))))))
theorem sd857 (F : zFx p l R s m args meth c D cid kv N0 xs Ls RX8 cX8_ends 3 n0 z0 nF zE d) (IH : zAllM l D cid kv N0 xs Ls d) (hQ : ∀ v h, Qq v h → v = r0 ∧ h = hF) (hn : nF = zN hF) (hz : zE = zZ hF) (hlocks : meth.locks = false) (hr : meth.sig.returnType = (some .int)) (pc : Nat) : zSo p l e R s m args below meth c D cid kv N0 xs Ls 3 (MQ below (zQc D cid kv N0 xs Ls ρ0 r0 hF) args s (nF - n0) (zE - z0) (zA N0)) ρ0 n0 z0 nF zE Qq (zCall d) pc (zTab 857 pc) := zc_tab [zt857_0, zt857_1] (zc_cons (sd857_0 F IH hQ hn hz hlocks hr) (zc_cons (sd857_1 F IH hQ hn hz hlocks hr) zc_end))
theorem dX8_book_0 : decode cX8_book 0 = .ok (.iload_n 1, 1) := by decide +kernel
theorem dX8_book_1 : decode cX8_book 1 = .ok (.iconst (-1), 1) := by decide +kernel
theorem dX8_book_2 : decode cX8_book 2 = .ok (.if_icmp .ne 13, 3) := by decide +kernel
theorem dX8_book_5 : decode cX8_book 5 = .ok (.aload_n 0, 1) := by decide +kernel
theorem dX8_book_6 : decode cX8_book 6 = .ok (.getfield 15, 3) := by decide +kernel
theorem dX8_book_9 : decode cX8_book 9 = .ok (.bipush 101, 2) := by decide +kernel
theorem dX8_book_11 : decode cX8_book 11 = .ok (.iconst 0, 1) := by decide +kernel
theorem dX8_book_12 : decode cX8_book 12 = .ok (.iastore, 1) := by decide +kernel
theorem dX8_book_13 : decode cX8_book 13 = .ok (.iconst 0, 1) := by decide +kernel
theorem dX8_book_14 : decode cX8_book 14 = .ok (.ireturn, 1) := by decide +kernel
theorem dX8_book_15 : decode cX8_book 15 = .ok (.aload_n 0, 1) := by decide +kernel
theorem dX8_book_16 : decode cX8_book 16 = .ok (.iload_n 1, 1) := by decide +kernel
theorem dX8_book_17 : decode cX8_book 17 = .ok (.invokevirtual 92, 3) := by decide +kernel
theorem dX8_book_20 : decode cX8_book 20 = .ok (.ifCond .eq 13, 3) := by decide +kernel
theorem dX8_book_23 : decode cX8_book 23 = .ok (.iload_n 2, 1) := by decide +kernel
theorem dX8_book_24 : decode cX8_book 24 = .ok (.iconst 0, 1) := by decide +kernel
theorem dX8_book_25 : decode cX8_book 25 = .ok (.bipush 10, 2) := by decide +kernel
theorem dX8_book_27 : decode cX8_book 27 = .ok (.invokestatic 84, 3) := by decide +kernel
theorem dX8_book_30 : decode cX8_book 30 = .ok (.ifCond .ne 5, 3) := by decide +kernel
theorem dX8_book_33 : decode cX8_book 33 = .ok (.iconst (-1), 1) := by decide +kernel
theorem dX8_book_34 : decode cX8_book 34 = .ok (.ireturn, 1) := by decide +kernel
theorem dX8_book_35 : decode cX8_book 35 = .ok (.aload_n 0, 1) := by decide +kernel
theorem dX8_book_36 : decode cX8_book 36 = .ok (.getfield 15, 3) := by decide +kernel
theorem dX8_book_39 : decode cX8_book 39 = .ok (.bipush 101, 2) := by decide +kernel
theorem dX8_book_41 : decode cX8_book 41 = .ok (.iaload, 1) := by decide +kernel
theorem dX8_book_42 : decode cX8_book 42 = .ok (.bipush 8, 2) := by decide +kernel
theorem dX8_book_44 : decode cX8_book 44 = .ok (.if_icmp .ne 6, 3) := by decide +kernel
theorem dX8_book_47 : decode cX8_book 47 = .ok (.bipush (-4), 2) := by decide +kernel
theorem dX8_book_49 : decode cX8_book 49 = .ok (.ireturn, 1) := by decide +kernel
theorem dX8_book_50 : decode cX8_book 50 = .ok (.aload_n 0, 1) := by decide +kernel
theorem dX8_book_51 : decode cX8_book 51 = .ok (.getfield 15, 3) := by decide +kernel
theorem dX8_book_54 : decode cX8_book 54 = .ok (.bipush 102, 2) := by decide +kernel
theorem dX8_book_56 : decode cX8_book 56 = .ok (.iconst 2, 1) := by decide +kernel
theorem dX8_book_57 : decode cX8_book 57 = .ok (.aload_n 0, 1) := by decide +kernel
theorem dX8_book_58 : decode cX8_book 58 = .ok (.getfield 15, 3) := by decide +kernel
theorem dX8_book_61 : decode cX8_book 61 = .ok (.bipush 101, 2) := by decide +kernel
theorem dX8_book_63 : decode cX8_book 63 = .ok (.iaload, 1) := by decide +kernel
theorem dX8_book_64 : decode cX8_book 64 = .ok (.imul, 1) := by decide +kernel
theorem dX8_book_65 : decode cX8_book 65 = .ok (.iadd, 1) := by decide +kernel
theorem dX8_book_66 : decode cX8_book 66 = .ok (.iload_n 1, 1) := by decide +kernel
theorem dX8_book_67 : decode cX8_book 67 = .ok (.iastore, 1) := by decide +kernel
theorem dX8_book_68 : decode cX8_book 68 = .ok (.aload_n 0, 1) := by decide +kernel
theorem dX8_book_69 : decode cX8_book 69 = .ok (.getfield 15, 3) := by decide +kernel
theorem dX8_book_72 : decode cX8_book 72 = .ok (.bipush 103, 2) := by decide +kernel
theorem dX8_book_74 : decode cX8_book 74 = .ok (.iconst 2, 1) := by decide +kernel
theorem dX8_book_75 : decode cX8_book 75 = .ok (.aload_n 0, 1) := by decide +kernel
theorem dX8_book_76 : decode cX8_book 76 = .ok (.getfield 15, 3) := by decide +kernel
theorem dX8_book_79 : decode cX8_book 79 = .ok (.bipush 101, 2) := by decide +kernel
theorem dX8_book_81 : decode cX8_book 81 = .ok (.iaload, 1) := by decide +kernel
theorem dX8_book_82 : decode cX8_book 82 = .ok (.imul, 1) := by decide +kernel
theorem dX8_book_83 : decode cX8_book 83 = .ok (.iadd, 1) := by decide +kernel
theorem dX8_book_84 : decode cX8_book 84 = .ok (.iload_n 2, 1) := by decide +kernel
theorem dX8_book_85 : decode cX8_book 85 = .ok (.iastore, 1) := by decide +kernel
theorem dX8_book_86 : decode cX8_book 86 = .ok (.aload_n 0, 1) := by decide +kernel
theorem dX8_book_87 : decode cX8_book 87 = .ok (.getfield 15, 3) := by decide +kernel
theorem dX8_book_90 : decode cX8_book 90 = .ok (.bipush 101, 2) := by decide +kernel
theorem dX8_book_92 : decode cX8_book 92 = .ok (.dup2, 1) := by decide +kernel
theorem dX8_book_93 : decode cX8_book 93 = .ok (.iaload, 1) := by decide +kernel
theorem dX8_book_94 : decode cX8_book 94 = .ok (.iconst 1, 1) := by decide +kernel
theorem dX8_book_95 : decode cX8_book 95 = .ok (.iadd, 1) := by decide +kernel
theorem dX8_book_96 : decode cX8_book 96 = .ok (.iastore, 1) := by decide +kernel
theorem dX8_book_97 : decode cX8_book 97 = .ok (.aload_n 0, 1) := by decide +kernel
theorem dX8_book_98 : decode cX8_book 98 = .ok (.getfield 15, 3) := by decide +kernel
theorem dX8_book_101 : decode cX8_book 101 = .ok (.bipush 101, 2) := by decide +kernel
theorem dX8_book_103 : decode cX8_book 103 = .ok (.iaload, 1) := by decide +kernel
theorem dX8_book_104 : decode cX8_book 104 = .ok (.ireturn, 1) := by decide +kernel
theorem sd858_0 (F : zFx p l R s m args meth c D cid kv N0 xs Ls RX8 cX8_book 3 n0 z0 nF zE d) (IH : zAllM l D cid kv N0 xs Ls d) (hQ : ∀ v h, Qq v h → v = r0 ∧ h = hF) (hn : nF = zN hF) (hz : zE = zZ hF) (hlocks : meth.locks = false) (hr : meth.sig.returnType = (some .int)) : zSoL p l e R s m args below meth c D cid kv N0 xs Ls 3 (MQ below (zQc D cid kv N0 xs Ls ρ0 r0 hF) args s (nF - n0) (zE - z0) (zA N0)) ρ0 n0 z0 nF zE Qq (zCall d) zt858_0 := zc_so (si_iload_n F dX8_book_0 rfl)
  (zc_so (si_iconst F dX8_book_1 rfl)
  (zc_so (si_icne F dX8_book_2 rfl)
  (zc_so (si_aload_n F dX8_book_5 rfl)
  (zc_so (si_getR (k := 0) F rfl inT8 (by decide) (by decide) rfl rfl tb_704 dX8_book_6)
  (zc_so (si_bipush F dX8_book_9 rfl)
  (zc_so (si_iconst F dX8_book_11 rfl)
  (zc_so (si_iastore F dX8_book_12)
  (zc_so (si_iconst F dX8_book_13 rfl)
  (zc_so (si_rI F hQ hn hz hlocks hr (fun _ _ => rfl) dX8_book_14)
  (zc_so (si_aload_n F dX8_book_15 rfl)
  (zc_so (si_iload_n F dX8_book_16 rfl)
  (zc_so (si_cV F (IH 807 mm807) mp807 (by decide) rfl rfl (by decide) tb_815 mi807 ms807 mn807 mc807 dX8_book_17)
  (zc_so (si_ifeq F dX8_book_20 rfl)
  (zc_so (si_iload_n F dX8_book_23 rfl)
  (zc_so (si_iconst F dX8_book_24 rfl)
  (zc_so (si_bipush F dX8_book_25 rfl)
  (zc_so (si_cS  F (IH 802 mm802) mp802 (by decide) tb_808 mi802 mn802 mc802 dX8_book_27)
  (zc_so (si_ifne F dX8_book_30 rfl)
  (zc_so (si_iconst F dX8_book_33 rfl)
  (zc_so (si_rI F hQ hn hz hlocks hr (fun _ _ => rfl) dX8_book_34)
  (zc_so (si_aload_n F dX8_book_35 rfl)
  (zc_so (si_getR (k := 0) F rfl inT8 (by decide) (by decide) rfl rfl tb_704 dX8_book_36)
  (zc_so (si_bipush F dX8_book_39 rfl)
  (zc_so (si_iaload F dX8_book_41)
  (zc_so (si_bipush F dX8_book_42 rfl)
  (zc_so (si_icne F dX8_book_44 rfl)
  (zc_so (si_bipush F dX8_book_47 rfl)
  (zc_so (si_rI F hQ hn hz hlocks hr (fun _ _ => rfl) dX8_book_49)
  (zc_so (si_aload_n F dX8_book_50 rfl)
  (zc_so (si_getR (k := 0) F rfl inT8 (by decide) (by decide) rfl rfl tb_704 dX8_book_51)
  (zc_so (si_bipush F dX8_book_54 rfl)
  (zc_so (si_iconst F dX8_book_56 rfl)
  (zc_so (si_aload_n F dX8_book_57 rfl)
  (zc_so (si_getR (k := 0) F rfl inT8 (by decide) (by decide) rfl rfl tb_704 dX8_book_58)
  (zc_so (si_bipush F dX8_book_61 rfl)
  (zc_so (si_iaload F dX8_book_63)
  (zc_nil)))))))))))))))))))))))))))))))))))))
theorem sd858_1 (F : zFx p l R s m args meth c D cid kv N0 xs Ls RX8 cX8_book 3 n0 z0 nF zE d) (IH : zAllM l D cid kv N0 xs Ls d) (hQ : ∀ v h, Qq v h → v = r0 ∧ h = hF) (hn : nF = zN hF) (hz : zE = zZ hF) (hlocks : meth.locks = false) (hr : meth.sig.returnType = (some .int)) : zSoL p l e R s m args below meth c D cid kv N0 xs Ls 3 (MQ below (zQc D cid kv N0 xs Ls ρ0 r0 hF) args s (nF - n0) (zE - z0) (zA N0)) ρ0 n0 z0 nF zE Qq (zCall d) zt858_1 := zc_so (si_imul F dX8_book_64)
  (zc_so (si_iadd F dX8_book_65)
  (zc_so (si_iload_n F dX8_book_66 rfl)
  (zc_so (si_iastore F dX8_book_67)
  (zc_so (si_aload_n F dX8_book_68 rfl)
  (zc_so (si_getR (k := 0) F rfl inT8 (by decide) (by decide) rfl rfl tb_704 dX8_book_69)
  (zc_so (si_bipush F dX8_book_72 rfl)
  (zc_so (si_iconst F dX8_book_74 rfl)
  (zc_so (si_aload_n F dX8_book_75 rfl)
  (zc_so (si_getR (k := 0) F rfl inT8 (by decide) (by decide) rfl rfl tb_704 dX8_book_76)
  (zc_so (si_bipush F dX8_book_79 rfl)
  (zc_so (si_iaload F dX8_book_81)
  (zc_so (si_imul F dX8_book_82)
  (zc_so (si_iadd F dX8_book_83)
  (zc_so (si_iload_n F dX8_book_84 rfl)
  (zc_so (si_iastore F dX8_book_85)
  (zc_so (si_aload_n F dX8_book_86 rfl)
  (zc_so (si_getR (k := 0) F rfl inT8 (by decide) (by decide) rfl rfl tb_704 dX8_book_87)
  (zc_so (si_bipush F dX8_book_90 rfl)
  (zc_so (si_dup2 F dX8_book_92)
  (zc_so (si_iaload F dX8_book_93)
  (zc_so (si_iconst F dX8_book_94 rfl)
  (zc_so (si_iadd F dX8_book_95)
  (zc_so (si_iastore F dX8_book_96)
  (zc_so (si_aload_n F dX8_book_97 rfl)
  (zc_so (si_getR (k := 0) F rfl inT8 (by decide) (by decide) rfl rfl tb_704 dX8_book_98)
  (zc_so (si_bipush F dX8_book_101 rfl)
  (zc_so (si_iaload F dX8_book_103)
  (zc_so (si_rI F hQ hn hz hlocks hr (fun _ _ => rfl) dX8_book_104)
  (zc_nil)))))))))))))))))))))))))))))
theorem sd858 (F : zFx p l R s m args meth c D cid kv N0 xs Ls RX8 cX8_book 3 n0 z0 nF zE d) (IH : zAllM l D cid kv N0 xs Ls d) (hQ : ∀ v h, Qq v h → v = r0 ∧ h = hF) (hn : nF = zN hF) (hz : zE = zZ hF) (hlocks : meth.locks = false) (hr : meth.sig.returnType = (some .int)) (pc : Nat) : zSo p l e R s m args below meth c D cid kv N0 xs Ls 3 (MQ below (zQc D cid kv N0 xs Ls ρ0 r0 hF) args s (nF - n0) (zE - z0) (zA N0)) ρ0 n0 z0 nF zE Qq (zCall d) pc (zTab 858 pc) := zc_tab [zt858_0, zt858_1] (zc_cons (sd858_0 F IH hQ hn hz hlocks hr) (zc_cons (sd858_1 F IH hQ hn hz hlocks hr) zc_end))
theorem dX8_looked_0 : decode cX8_looked 0 = .ok (.iconst 0, 1) := by decide +kernel
theorem dX8_looked_1 : decode cX8_looked 1 = .ok (.istore_n 1, 1) := by decide +kernel
theorem dX8_looked_2 : decode cX8_looked 2 = .ok (.iload_n 1, 1) := by decide +kernel
theorem dX8_looked_3 : decode cX8_looked 3 = .ok (.aload_n 0, 1) := by decide +kernel
theorem dX8_looked_4 : decode cX8_looked 4 = .ok (.getfield 15, 3) := by decide +kernel
theorem dX8_looked_7 : decode cX8_looked 7 = .ok (.bipush 101, 2) := by decide +kernel
theorem dX8_looked_9 : decode cX8_looked 9 = .ok (.iaload, 1) := by decide +kernel
theorem dX8_looked_10 : decode cX8_looked 10 = .ok (.if_icmp .ge 41, 3) := by decide +kernel
theorem dX8_looked_13 : decode cX8_looked 13 = .ok (.aload_n 0, 1) := by decide +kernel
theorem dX8_looked_14 : decode cX8_looked 14 = .ok (.aload_n 0, 1) := by decide +kernel
theorem dX8_looked_15 : decode cX8_looked 15 = .ok (.getfield 15, 3) := by decide +kernel
theorem dX8_looked_18 : decode cX8_looked 18 = .ok (.bipush 102, 2) := by decide +kernel
theorem dX8_looked_20 : decode cX8_looked 20 = .ok (.iconst 2, 1) := by decide +kernel
theorem dX8_looked_21 : decode cX8_looked 21 = .ok (.iload_n 1, 1) := by decide +kernel
theorem dX8_looked_22 : decode cX8_looked 22 = .ok (.imul, 1) := by decide +kernel
theorem dX8_looked_23 : decode cX8_looked 23 = .ok (.iadd, 1) := by decide +kernel
theorem dX8_looked_24 : decode cX8_looked 24 = .ok (.iaload, 1) := by decide +kernel
theorem dX8_looked_25 : decode cX8_looked 25 = .ok (.iconst 3, 1) := by decide +kernel
theorem dX8_looked_26 : decode cX8_looked 26 = .ok (.invokevirtual 88, 3) := by decide +kernel
theorem dX8_looked_29 : decode cX8_looked 29 = .ok (.aload_n 0, 1) := by decide +kernel
theorem dX8_looked_30 : decode cX8_looked 30 = .ok (.getfield 15, 3) := by decide +kernel
theorem dX8_looked_33 : decode cX8_looked 33 = .ok (.bipush 103, 2) := by decide +kernel
theorem dX8_looked_35 : decode cX8_looked 35 = .ok (.iconst 2, 1) := by decide +kernel
theorem dX8_looked_36 : decode cX8_looked 36 = .ok (.iload_n 1, 1) := by decide +kernel
theorem dX8_looked_37 : decode cX8_looked 37 = .ok (.imul, 1) := by decide +kernel
theorem dX8_looked_38 : decode cX8_looked 38 = .ok (.iadd, 1) := by decide +kernel
theorem dX8_looked_39 : decode cX8_looked 39 = .ok (.iaload, 1) := by decide +kernel
theorem dX8_looked_40 : decode cX8_looked 40 = .ok (.if_icmp .eq 5, 3) := by decide +kernel
theorem dX8_looked_43 : decode cX8_looked 43 = .ok (.iload_n 1, 1) := by decide +kernel
theorem dX8_looked_44 : decode cX8_looked 44 = .ok (.ireturn, 1) := by decide +kernel
theorem dX8_looked_45 : decode cX8_looked 45 = .ok (.iinc 1 1, 3) := by decide +kernel
theorem dX8_looked_48 : decode cX8_looked 48 = .ok (.goto (-46), 3) := by decide +kernel
theorem dX8_looked_51 : decode cX8_looked 51 = .ok (.bipush (-5), 2) := by decide +kernel
theorem dX8_looked_53 : decode cX8_looked 53 = .ok (.ireturn, 1) := by decide +kernel
theorem sd859_0 (F : zFx p l R s m args meth c D cid kv N0 xs Ls RX8 cX8_looked 2 n0 z0 nF zE d) (IH : zAllM l D cid kv N0 xs Ls d) (hQ : ∀ v h, Qq v h → v = r0 ∧ h = hF) (hn : nF = zN hF) (hz : zE = zZ hF) (hlocks : meth.locks = false) (hr : meth.sig.returnType = (some .int)) : zSoL p l e R s m args below meth c D cid kv N0 xs Ls 2 (MQ below (zQc D cid kv N0 xs Ls ρ0 r0 hF) args s (nF - n0) (zE - z0) (zA N0)) ρ0 n0 z0 nF zE Qq (zCall d) zt859_0 := zc_so (si_iconst F dX8_looked_0 rfl)
  (zc_so (si_istore_n F dX8_looked_1 rfl)
  (zc_so (si_iload_n F dX8_looked_2 rfl)
  (zc_so (si_aload_n F dX8_looked_3 rfl)
  (zc_so (si_getR (k := 0) F rfl inT8 (by decide) (by decide) rfl rfl tb_704 dX8_looked_4)
  (zc_so (si_bipush F dX8_looked_7 rfl)
  (zc_so (si_iaload F dX8_looked_9)
  (zc_so (si_icge F dX8_looked_10 rfl)
  (zc_so (si_aload_n F dX8_looked_13 rfl)
  (zc_so (si_aload_n F dX8_looked_14 rfl)
  (zc_so (si_getR (k := 0) F rfl inT8 (by decide) (by decide) rfl rfl tb_704 dX8_looked_15)
  (zc_so (si_bipush F dX8_looked_18 rfl)
  (zc_so (si_iconst F dX8_looked_20 rfl)
  (zc_so (si_iload_n F dX8_looked_21 rfl)
  (zc_so (si_imul F dX8_looked_22)
  (zc_so (si_iadd F dX8_looked_23)
  (zc_so (si_iaload F dX8_looked_24)
  (zc_so (si_iconst F dX8_looked_25 rfl)
  (zc_so (si_cV F (IH 808 mm808) mp808 (by decide) rfl rfl (by decide) tb_819 mi808 ms808 mn808 mc808 dX8_looked_26)
  (zc_so (si_aload_n F dX8_looked_29 rfl)
  (zc_so (si_getR (k := 0) F rfl inT8 (by decide) (by decide) rfl rfl tb_704 dX8_looked_30)
  (zc_so (si_bipush F dX8_looked_33 rfl)
  (zc_so (si_iconst F dX8_looked_35 rfl)
  (zc_so (si_iload_n F dX8_looked_36 rfl)
  (zc_so (si_imul F dX8_looked_37)
  (zc_so (si_iadd F dX8_looked_38)
  (zc_so (si_iaload F dX8_looked_39)
  (zc_so (si_iceq F dX8_looked_40 rfl)
  (zc_so (si_iload_n F dX8_looked_43 rfl)
  (zc_so (si_rI F hQ hn hz hlocks hr (fun _ _ => rfl) dX8_looked_44)
  (zc_so (si_iinc F dX8_looked_45 rfl)
  (zc_so (si_goto F dX8_looked_48 rfl)
  (zc_so (si_bipush F dX8_looked_51 rfl)
  (zc_so (si_rI F hQ hn hz hlocks hr (fun _ _ => rfl) dX8_looked_53)
  (zc_nil))))))))))))))))))))))))))))))))))
theorem sd859 (F : zFx p l R s m args meth c D cid kv N0 xs Ls RX8 cX8_looked 2 n0 z0 nF zE d) (IH : zAllM l D cid kv N0 xs Ls d) (hQ : ∀ v h, Qq v h → v = r0 ∧ h = hF) (hn : nF = zN hF) (hz : zE = zZ hF) (hlocks : meth.locks = false) (hr : meth.sig.returnType = (some .int)) (pc : Nat) : zSo p l e R s m args below meth c D cid kv N0 xs Ls 2 (MQ below (zQc D cid kv N0 xs Ls ρ0 r0 hF) args s (nF - n0) (zE - z0) (zA N0)) ρ0 n0 z0 nF zE Qq (zCall d) pc (zTab 859 pc) := zc_tab [zt859_0] (zc_cons (sd859_0 F IH hQ hn hz hlocks hr) zc_end)
theorem dX8_body_0 : decode cX8_body 0 = .ok (.aload_n 0, 1) := by decide +kernel
theorem dX8_body_1 : decode cX8_body 1 = .ok (.getfield 232, 3) := by decide +kernel
theorem dX8_body_4 : decode cX8_body 4 = .ok (.bipush 20, 2) := by decide +kernel
theorem dX8_body_6 : decode cX8_body 6 = .ok (.if_icmp .ge 13, 3) := by decide +kernel
theorem dX8_body_9 : decode cX8_body 9 = .ok (.aload_n 0, 1) := by decide +kernel
theorem dX8_body_10 : decode cX8_body 10 = .ok (.getfield 60, 3) := by decide +kernel
theorem dX8_body_13 : decode cX8_body 13 = .ok (.aload_n 0, 1) := by decide +kernel
theorem dX8_body_14 : decode cX8_body 14 = .ok (.getfield 232, 3) := by decide +kernel
theorem dX8_body_17 : decode cX8_body 17 = .ok (.iload_n 1, 1) := by decide +kernel
theorem dX8_body_18 : decode cX8_body 18 = .ok (.iastore, 1) := by decide +kernel
theorem dX8_body_19 : decode cX8_body 19 = .ok (.aload_n 0, 1) := by decide +kernel
theorem dX8_body_20 : decode cX8_body 20 = .ok (.dup, 1) := by decide +kernel
theorem dX8_body_21 : decode cX8_body 21 = .ok (.getfield 232, 3) := by decide +kernel
theorem dX8_body_24 : decode cX8_body 24 = .ok (.iconst 1, 1) := by decide +kernel
theorem dX8_body_25 : decode cX8_body 25 = .ok (.iadd, 1) := by decide +kernel
theorem dX8_body_26 : decode cX8_body 26 = .ok (.putfield 232, 3) := by decide +kernel
theorem dX8_body_29 : decode cX8_body 29 = .ok (.iload_n 1, 1) := by decide +kernel
theorem dX8_body_30 : decode cX8_body 30 = .ok (.ireturn, 1) := by decide +kernel
theorem sd860_0 (F : zFx p l R s m args meth c D cid kv N0 xs Ls RX8 cX8_body 2 n0 z0 nF zE d) (IH : zAllM l D cid kv N0 xs Ls d) (hQ : ∀ v h, Qq v h → v = r0 ∧ h = hF) (hn : nF = zN hF) (hz : zE = zZ hF) (hlocks : meth.locks = false) (hr : meth.sig.returnType = (some .int)) : zSoL p l e R s m args below meth c D cid kv N0 xs Ls 2 (MQ below (zQc D cid kv N0 xs Ls ρ0 r0 hF) args s (nF - n0) (zE - z0) (zA N0)) ρ0 n0 z0 nF zE Qq (zCall d) zt860_0 := zc_so (si_aload_n F dX8_body_0 rfl)
  (zc_so (si_getI (k := 24) F rfl inT8 (by decide) (by decide) rfl rfl tb_728 dX8_body_1)
  (zc_so (si_bipush F dX8_body_4 rfl)
  (zc_so (si_icge F dX8_body_6 rfl)
  (zc_so (si_aload_n F dX8_body_9 rfl)
  (zc_so (si_getR (k := 23) F rfl inT8 (by decide) (by decide) rfl rfl tb_727 dX8_body_10)
  (zc_so (si_aload_n F dX8_body_13 rfl)
  (zc_so (si_getI (k := 24) F rfl inT8 (by decide) (by decide) rfl rfl tb_728 dX8_body_14)
  (zc_so (si_iload_n F dX8_body_17 rfl)
  (zc_so (si_iastore F dX8_body_18)
  (zc_so (si_aload_n F dX8_body_19 rfl)
  (zc_so (si_dup F dX8_body_20)
  (zc_so (si_getI (k := 24) F rfl inT8 (by decide) (by decide) rfl rfl tb_728 dX8_body_21)
  (zc_so (si_iconst F dX8_body_24 rfl)
  (zc_so (si_iadd F dX8_body_25)
  (zc_so (si_putI (k := 24) F rfl inT8 (by decide) (by decide) rfl rfl rfl rfl tyX8_ok nmX8 tb_728 dX8_body_26)
  (zc_so (si_iload_n F dX8_body_29 rfl)
  (zc_so (si_rI F hQ hn hz hlocks hr (fun _ _ => rfl) dX8_body_30)
  (zc_nil))))))))))))))))))
theorem sd860 (F : zFx p l R s m args meth c D cid kv N0 xs Ls RX8 cX8_body 2 n0 z0 nF zE d) (IH : zAllM l D cid kv N0 xs Ls d) (hQ : ∀ v h, Qq v h → v = r0 ∧ h = hF) (hn : nF = zN hF) (hz : zE = zZ hF) (hlocks : meth.locks = false) (hr : meth.sig.returnType = (some .int)) (pc : Nat) : zSo p l e R s m args below meth c D cid kv N0 xs Ls 2 (MQ below (zQc D cid kv N0 xs Ls ρ0 r0 hF) args s (nF - n0) (zE - z0) (zA N0)) ρ0 n0 z0 nF zE Qq (zCall d) pc (zTab 860 pc) := zc_tab [zt860_0] (zc_cons (sd860_0 F IH hQ hn hz hlocks hr) zc_end)
theorem dX8_all_0 : decode cX8_all 0 = .ok (.aload_n 0, 1) := by decide +kernel
theorem dX8_all_1 : decode cX8_all 1 = .ok (.aload_n 0, 1) := by decide +kernel
theorem dX8_all_2 : decode cX8_all 2 = .ok (.iload_n 1, 1) := by decide +kernel
theorem dX8_all_3 : decode cX8_all 3 = .ok (.iconst 0, 1) := by decide +kernel
theorem dX8_all_4 : decode cX8_all 4 = .ok (.invokevirtual 88, 3) := by decide +kernel
theorem dX8_all_7 : decode cX8_all 7 = .ok (.iload_n 1, 1) := by decide +kernel
theorem dX8_all_8 : decode cX8_all 8 = .ok (.iload_n 2, 1) := by decide +kernel
theorem dX8_all_9 : decode cX8_all 9 = .ok (.iload_n 3, 1) := by decide +kernel
theorem dX8_all_10 : decode cX8_all 10 = .ok (.invokevirtual 235, 3) := by decide +kernel
theorem dX8_all_13 : decode cX8_all 13 = .ok (.ireturn, 1) := by decide +kernel
theorem sd861_0 (F : zFx p l R s m args meth c D cid kv N0 xs Ls RX8 cX8_all 4 n0 z0 nF zE d) (IH : zAllM l D cid kv N0 xs Ls d) (hQ : ∀ v h, Qq v h → v = r0 ∧ h = hF) (hn : nF = zN hF) (hz : zE = zZ hF) (hlocks : meth.locks = false) (hr : meth.sig.returnType = (some .int)) : zSoL p l e R s m args below meth c D cid kv N0 xs Ls 4 (MQ below (zQc D cid kv N0 xs Ls ρ0 r0 hF) args s (nF - n0) (zE - z0) (zA N0)) ρ0 n0 z0 nF zE Qq (zCall d) zt861_0 := zc_so (si_aload_n F dX8_all_0 rfl)
  (zc_so (si_aload_n F dX8_all_1 rfl)
  (zc_so (si_iload_n F dX8_all_2 rfl)
  (zc_so (si_iconst F dX8_all_3 rfl)
  (zc_so (si_cV F (IH 808 mm808) mp808 (by decide) rfl rfl (by decide) tb_819 mi808 ms808 mn808 mc808 dX8_all_4)
  (zc_so (si_iload_n F dX8_all_7 rfl)
  (zc_so (si_iload_n F dX8_all_8 rfl)
  (zc_so (si_iload_n F dX8_all_9 rfl)
  (zc_so (si_cV F (IH 862 mm862) mp862 (by decide) rfl rfl (by decide) tb_1030 mi862 ms862 mn862 mc862 dX8_all_10)
  (zc_so (si_rI F hQ hn hz hlocks hr (fun _ _ => rfl) dX8_all_13)
  (zc_nil))))))))))
theorem sd861 (F : zFx p l R s m args meth c D cid kv N0 xs Ls RX8 cX8_all 4 n0 z0 nF zE d) (IH : zAllM l D cid kv N0 xs Ls d) (hQ : ∀ v h, Qq v h → v = r0 ∧ h = hF) (hn : nF = zN hF) (hz : zE = zZ hF) (hlocks : meth.locks = false) (hr : meth.sig.returnType = (some .int)) (pc : Nat) : zSo p l e R s m args below meth c D cid kv N0 xs Ls 4 (MQ below (zQc D cid kv N0 xs Ls ρ0 r0 hF) args s (nF - n0) (zE - z0) (zA N0)) ρ0 n0 z0 nF zE Qq (zCall d) pc (zTab 861 pc) := zc_tab [zt861_0] (zc_cons (sd861_0 F IH hQ hn hz hlocks hr) zc_end)
theorem dX8_byKind_0 : decode cX8_byKind 0 = .ok (.iload_n 1, 1) := by decide +kernel
theorem dX8_byKind_1 : decode cX8_byKind 1 = .ok (.istore 5, 2) := by decide +kernel
theorem dX8_byKind_3 : decode cX8_byKind 3 = .ok (.aload_n 0, 1) := by decide +kernel
theorem dX8_byKind_4 : decode cX8_byKind 4 = .ok (.getfield 57, 3) := by decide +kernel
theorem dX8_byKind_7 : decode cX8_byKind 7 = .ok (.iconst 3, 1) := by decide +kernel
theorem dX8_byKind_8 : decode cX8_byKind 8 = .ok (.iload 5, 2) := by decide +kernel
theorem dX8_byKind_10 : decode cX8_byKind 10 = .ok (.imul, 1) := by decide +kernel
theorem dX8_byKind_11 : decode cX8_byKind 11 = .ok (.iload_n 3, 1) := by decide +kernel
theorem dX8_byKind_12 : decode cX8_byKind 12 = .ok (.iadd, 1) := by decide +kernel
theorem dX8_byKind_13 : decode cX8_byKind 13 = .ok (.iaload, 1) := by decide +kernel
theorem dX8_byKind_14 : decode cX8_byKind 14 = .ok (.ifCond .ne 15, 3) := by decide +kernel
theorem dX8_byKind_17 : decode cX8_byKind 17 = .ok (.aload_n 0, 1) := by decide +kernel
theorem dX8_byKind_18 : decode cX8_byKind 18 = .ok (.getfield 54, 3) := by decide +kernel
theorem dX8_byKind_21 : decode cX8_byKind 21 = .ok (.iload 5, 2) := by decide +kernel
theorem dX8_byKind_23 : decode cX8_byKind 23 = .ok (.iaload, 1) := by decide +kernel
theorem dX8_byKind_24 : decode cX8_byKind 24 = .ok (.istore 5, 2) := by decide +kernel
theorem dX8_byKind_26 : decode cX8_byKind 26 = .ok (.goto (-23), 3) := by decide +kernel
theorem dX8_byKind_29 : decode cX8_byKind 29 = .ok (.aload_n 0, 1) := by decide +kernel
theorem dX8_byKind_30 : decode cX8_byKind 30 = .ok (.getfield 54, 3) := by decide +kernel
theorem dX8_byKind_33 : decode cX8_byKind 33 = .ok (.iload 5, 2) := by decide +kernel
theorem dX8_byKind_35 : decode cX8_byKind 35 = .ok (.iaload, 1) := by decide +kernel
theorem dX8_byKind_36 : decode cX8_byKind 36 = .ok (.istore 6, 2) := by decide +kernel
theorem dX8_byKind_38 : decode cX8_byKind 38 = .ok (.aload_n 0, 1) := by decide +kernel
theorem dX8_byKind_39 : decode cX8_byKind 39 = .ok (.aload_n 0, 1) := by decide +kernel
theorem dX8_byKind_40 : decode cX8_byKind 40 = .ok (.getfield 57, 3) := by decide +kernel
theorem dX8_byKind_43 : decode cX8_byKind 43 = .ok (.iconst 3, 1) := by decide +kernel
theorem dX8_byKind_44 : decode cX8_byKind 44 = .ok (.iload 5, 2) := by decide +kernel
theorem dX8_byKind_46 : decode cX8_byKind 46 = .ok (.imul, 1) := by decide +kernel
theorem dX8_byKind_47 : decode cX8_byKind 47 = .ok (.iload_n 3, 1) := by decide +kernel
theorem dX8_byKind_48 : decode cX8_byKind 48 = .ok (.iadd, 1) := by decide +kernel
theorem dX8_byKind_49 : decode cX8_byKind 49 = .ok (.iaload, 1) := by decide +kernel
theorem dX8_byKind_50 : decode cX8_byKind 50 = .ok (.invokevirtual 238, 3) := by decide +kernel
theorem dX8_byKind_53 : decode cX8_byKind 53 = .ok (.lookupswitch 228 #[(10, 91), (11, 96), (12, 112), (20, 123), (30, 137), (40, 150), (50, 169), (51, 181), (60, 194), (70, 207)], 91) := by decide +kernel
theorem dX8_byKind_144 : decode cX8_byKind 144 = .ok (.iload 4, 2) := by decide +kernel
theorem dX8_byKind_146 : decode cX8_byKind 146 = .ok (.iload_n 2, 1) := by decide +kernel
theorem dX8_byKind_147 : decode cX8_byKind 147 = .ok (.iadd, 1) := by decide +kernel
theorem dX8_byKind_148 : decode cX8_byKind 148 = .ok (.ireturn, 1) := by decide +kernel
theorem dX8_byKind_149 : decode cX8_byKind 149 = .ok (.aload_n 0, 1) := by decide +kernel
theorem dX8_byKind_150 : decode cX8_byKind 150 = .ok (.iload_n 2, 1) := by decide +kernel
theorem dX8_byKind_151 : decode cX8_byKind 151 = .ok (.iconst 0, 1) := by decide +kernel
theorem dX8_byKind_152 : decode cX8_byKind 152 = .ok (.iload 4, 2) := by decide +kernel
theorem dX8_byKind_154 : decode cX8_byKind 154 = .ok (.invokevirtual 241, 3) := by decide +kernel
theorem dX8_byKind_157 : decode cX8_byKind 157 = .ok (.aload_n 0, 1) := by decide +kernel
theorem dX8_byKind_158 : decode cX8_byKind 158 = .ok (.iload_n 2, 1) := by decide +kernel
theorem dX8_byKind_159 : decode cX8_byKind 159 = .ok (.iconst 1, 1) := by decide +kernel
theorem dX8_byKind_160 : decode cX8_byKind 160 = .ok (.invokevirtual 88, 3) := by decide +kernel
theorem dX8_byKind_163 : decode cX8_byKind 163 = .ok (.isub, 1) := by decide +kernel
theorem dX8_byKind_164 : decode cX8_byKind 164 = .ok (.ireturn, 1) := by decide +kernel
theorem dX8_byKind_165 : decode cX8_byKind 165 = .ok (.aload_n 0, 1) := by decide +kernel
theorem dX8_byKind_166 : decode cX8_byKind 166 = .ok (.iload_n 2, 1) := by decide +kernel
theorem dX8_byKind_167 : decode cX8_byKind 167 = .ok (.iconst 1, 1) := by decide +kernel
theorem dX8_byKind_168 : decode cX8_byKind 168 = .ok (.iload 4, 2) := by decide +kernel
theorem dX8_byKind_170 : decode cX8_byKind 170 = .ok (.invokevirtual 241, 3) := by decide +kernel
theorem dX8_byKind_173 : decode cX8_byKind 173 = .ok (.iconst 2, 1) := by decide +kernel
theorem dX8_byKind_174 : decode cX8_byKind 174 = .ok (.imul, 1) := by decide +kernel
theorem dX8_byKind_175 : decode cX8_byKind 175 = .ok (.ireturn, 1) := by decide +kernel
theorem dX8_byKind_176 : decode cX8_byKind 176 = .ok (.aload_n 0, 1) := by decide +kernel
theorem dX8_byKind_177 : decode cX8_byKind 177 = .ok (.iload 6, 2) := by decide +kernel
theorem dX8_byKind_179 : decode cX8_byKind 179 = .ok (.iload_n 2, 1) := by decide +kernel
theorem dX8_byKind_180 : decode cX8_byKind 180 = .ok (.iconst 1, 1) := by decide +kernel
theorem dX8_byKind_181 : decode cX8_byKind 181 = .ok (.iload 4, 2) := by decide +kernel
theorem dX8_byKind_183 : decode cX8_byKind 183 = .ok (.invokevirtual 235, 3) := by decide +kernel
theorem dX8_byKind_186 : decode cX8_byKind 186 = .ok (.bipush 6, 2) := by decide +kernel
theorem dX8_byKind_188 : decode cX8_byKind 188 = .ok (.ixor, 1) := by decide +kernel
theorem dX8_byKind_189 : decode cX8_byKind 189 = .ok (.ireturn, 1) := by decide +kernel
theorem dX8_byKind_190 : decode cX8_byKind 190 = .ok (.aload_n 0, 1) := by decide +kernel
theorem dX8_byKind_191 : decode cX8_byKind 191 = .ok (.iload 6, 2) := by decide +kernel
theorem dX8_byKind_193 : decode cX8_byKind 193 = .ok (.iload_n 2, 1) := by decide +kernel
theorem dX8_byKind_194 : decode cX8_byKind 194 = .ok (.iconst 0, 1) := by decide +kernel
theorem dX8_byKind_195 : decode cX8_byKind 195 = .ok (.iload 4, 2) := by decide +kernel
theorem dX8_byKind_197 : decode cX8_byKind 197 = .ok (.iconst 3, 1) := by decide +kernel
theorem dX8_byKind_198 : decode cX8_byKind 198 = .ok (.imul, 1) := by decide +kernel
theorem dX8_byKind_199 : decode cX8_byKind 199 = .ok (.invokevirtual 235, 3) := by decide +kernel
theorem dX8_byKind_202 : decode cX8_byKind 202 = .ok (.ireturn, 1) := by decide +kernel
theorem dX8_byKind_203 : decode cX8_byKind 203 = .ok (.aload_n 0, 1) := by decide +kernel
theorem dX8_byKind_204 : decode cX8_byKind 204 = .ok (.iload 6, 2) := by decide +kernel
theorem dX8_byKind_206 : decode cX8_byKind 206 = .ok (.iload_n 2, 1) := by decide +kernel
theorem dX8_byKind_207 : decode cX8_byKind 207 = .ok (.iconst 2, 1) := by decide +kernel
theorem dX8_byKind_208 : decode cX8_byKind 208 = .ok (.iload 4, 2) := by decide +kernel
theorem dX8_byKind_210 : decode cX8_byKind 210 = .ok (.invokevirtual 235, 3) := by decide +kernel
theorem dX8_byKind_213 : decode cX8_byKind 213 = .ok (.aload_n 0, 1) := by decide +kernel
theorem dX8_byKind_214 : decode cX8_byKind 214 = .ok (.iload_n 2, 1) := by decide +kernel
theorem dX8_byKind_215 : decode cX8_byKind 215 = .ok (.iconst 1, 1) := by decide +kernel
theorem dX8_byKind_216 : decode cX8_byKind 216 = .ok (.iconst 1, 1) := by decide +kernel
theorem dX8_byKind_217 : decode cX8_byKind 217 = .ok (.invokevirtual 241, 3) := by decide +kernel
theorem dX8_byKind_220 : decode cX8_byKind 220 = .ok (.iadd, 1) := by decide +kernel
theorem dX8_byKind_221 : decode cX8_byKind 221 = .ok (.ireturn, 1) := by decide +kernel
theorem dX8_byKind_222 : decode cX8_byKind 222 = .ok (.aload_n 0, 1) := by decide +kernel
theorem dX8_byKind_223 : decode cX8_byKind 223 = .ok (.iload 6, 2) := by decide +kernel
theorem dX8_byKind_225 : decode cX8_byKind 225 = .ok (.iload_n 2, 1) := by decide +kernel
theorem dX8_byKind_226 : decode cX8_byKind 226 = .ok (.iconst 0, 1) := by decide +kernel
theorem dX8_byKind_227 : decode cX8_byKind 227 = .ok (.iload 4, 2) := by decide +kernel
theorem dX8_byKind_229 : decode cX8_byKind 229 = .ok (.invokevirtual 235, 3) := by decide +kernel
theorem dX8_byKind_232 : decode cX8_byKind 232 = .ok (.ineg, 1) := by decide +kernel
theorem dX8_byKind_233 : decode cX8_byKind 233 = .ok (.ireturn, 1) := by decide +kernel
theorem dX8_byKind_234 : decode cX8_byKind 234 = .ok (.aload_n 0, 1) := by decide +kernel
theorem dX8_byKind_235 : decode cX8_byKind 235 = .ok (.iload 6, 2) := by decide +kernel
theorem dX8_byKind_237 : decode cX8_byKind 237 = .ok (.iload_n 2, 1) := by decide +kernel
theorem dX8_byKind_238 : decode cX8_byKind 238 = .ok (.iconst 1, 1) := by decide +kernel
theorem dX8_byKind_239 : decode cX8_byKind 239 = .ok (.iload 4, 2) := by decide +kernel
theorem dX8_byKind_241 : decode cX8_byKind 241 = .ok (.iconst 1, 1) := by decide +kernel
theorem dX8_byKind_242 : decode cX8_byKind 242 = .ok (.iadd, 1) := by decide +kernel
theorem dX8_byKind_243 : decode cX8_byKind 243 = .ok (.invokevirtual 235, 3) := by decide +kernel
theorem dX8_byKind_246 : decode cX8_byKind 246 = .ok (.ireturn, 1) := by decide +kernel
theorem dX8_byKind_247 : decode cX8_byKind 247 = .ok (.aload_n 0, 1) := by decide +kernel
theorem dX8_byKind_248 : decode cX8_byKind 248 = .ok (.iload 6, 2) := by decide +kernel
theorem dX8_byKind_250 : decode cX8_byKind 250 = .ok (.iload_n 2, 1) := by decide +kernel
theorem dX8_byKind_251 : decode cX8_byKind 251 = .ok (.iconst 2, 1) := by decide +kernel
theorem dX8_byKind_252 : decode cX8_byKind 252 = .ok (.iload 4, 2) := by decide +kernel
theorem dX8_byKind_254 : decode cX8_byKind 254 = .ok (.iload_n 2, 1) := by decide +kernel
theorem dX8_byKind_255 : decode cX8_byKind 255 = .ok (.isub, 1) := by decide +kernel
theorem dX8_byKind_256 : decode cX8_byKind 256 = .ok (.invokevirtual 235, 3) := by decide +kernel
theorem dX8_byKind_259 : decode cX8_byKind 259 = .ok (.ireturn, 1) := by decide +kernel
theorem dX8_byKind_260 : decode cX8_byKind 260 = .ok (.aload_n 0, 1) := by decide +kernel
theorem dX8_byKind_261 : decode cX8_byKind 261 = .ok (.iload 6, 2) := by decide +kernel
theorem dX8_byKind_263 : decode cX8_byKind 263 = .ok (.iload_n 2, 1) := by decide +kernel
theorem dX8_byKind_264 : decode cX8_byKind 264 = .ok (.iconst 1, 1) := by decide +kernel
theorem dX8_byKind_265 : decode cX8_byKind 265 = .ok (.iload 4, 2) := by decide +kernel
theorem dX8_byKind_267 : decode cX8_byKind 267 = .ok (.invokevirtual 235, 3) := by decide +kernel
theorem dX8_byKind_270 : decode cX8_byKind 270 = .ok (.aload_n 0, 1) := by decide +kernel
theorem dX8_byKind_271 : decode cX8_byKind 271 = .ok (.iload 6, 2) := by decide +kernel
theorem dX8_byKind_273 : decode cX8_byKind 273 = .ok (.iload_n 2, 1) := by decide +kernel
theorem dX8_byKind_274 : decode cX8_byKind 274 = .ok (.iconst 0, 1) := by decide +kernel
theorem dX8_byKind_275 : decode cX8_byKind 275 = .ok (.iconst 2, 1) := by decide +kernel
theorem dX8_byKind_276 : decode cX8_byKind 276 = .ok (.invokevirtual 235, 3) := by decide +kernel
theorem dX8_byKind_279 : decode cX8_byKind 279 = .ok (.iadd, 1) := by decide +kernel
theorem dX8_byKind_280 : decode cX8_byKind 280 = .ok (.ireturn, 1) := by decide +kernel
theorem dX8_byKind_281 : decode cX8_byKind 281 = .ok (.aload_n 0, 1) := by decide +kernel
theorem dX8_byKind_282 : decode cX8_byKind 282 = .ok (.iload 6, 2) := by decide +kernel
theorem dX8_byKind_284 : decode cX8_byKind 284 = .ok (.iload_n 2, 1) := by decide +kernel
theorem dX8_byKind_285 : decode cX8_byKind 285 = .ok (.iconst 0, 1) := by decide +kernel
theorem dX8_byKind_286 : decode cX8_byKind 286 = .ok (.iload 4, 2) := by decide +kernel
theorem dX8_byKind_288 : decode cX8_byKind 288 = .ok (.invokevirtual 235, 3) := by decide +kernel
theorem dX8_byKind_291 : decode cX8_byKind 291 = .ok (.aload_n 0, 1) := by decide +kernel
theorem dX8_byKind_292 : decode cX8_byKind 292 = .ok (.iload_n 2, 1) := by decide +kernel
theorem dX8_byKind_293 : decode cX8_byKind 293 = .ok (.iconst 1, 1) := by decide +kernel
theorem dX8_byKind_294 : decode cX8_byKind 294 = .ok (.invokevirtual 88, 3) := by decide +kernel
theorem dX8_byKind_297 : decode cX8_byKind 297 = .ok (.ixor, 1) := by decide +kernel
theorem dX8_byKind_298 : decode cX8_byKind 298 = .ok (.ireturn, 1) := by decide +kernel
theorem sd862_0 (F : zFx p l R s m args meth c D cid kv N0 xs Ls RX8 cX8_byKind 7 n0 z0 nF zE d) (IH : zAllM l D cid kv N0 xs Ls d) (hQ : ∀ v h, Qq v h → v = r0 ∧ h = hF) (hn : nF = zN hF) (hz : zE = zZ hF) (hlocks : meth.locks = false) (hr : meth.sig.returnType = (some .int)) : zSoL p l e R s m args below meth c D cid kv N0 xs Ls 7 (MQ below (zQc D cid kv N0 xs Ls ρ0 r0 hF) args s (nF - n0) (zE - z0) (zA N0)) ρ0 n0 z0 nF zE Qq (zCall d) zt862_0 := zc_so (si_iload_n F dX8_byKind_0 rfl)
  (zc_so (si_istore F dX8_byKind_1)
  (zc_so (si_aload_n F dX8_byKind_3 rfl)
  (zc_so (si_getR (k := 22) F rfl inT8 (by decide) (by decide) rfl rfl tb_726 dX8_byKind_4)
  (zc_so (si_iconst F dX8_byKind_7 rfl)
  (zc_so (si_iload F dX8_byKind_8)
  (zc_so (si_imul F dX8_byKind_10)
  (zc_so (si_iload_n F dX8_byKind_11 rfl)
  (zc_so (si_iadd F dX8_byKind_12)
  (zc_so (si_iaload F dX8_byKind_13)
  (zc_so (si_ifne F dX8_byKind_14 rfl)
  (zc_so (si_aload_n F dX8_byKind_17 rfl)
  (zc_so (si_getR (k := 21) F rfl inT8 (by decide) (by decide) rfl rfl tb_725 dX8_byKind_18)
  (zc_so (si_iload F dX8_byKind_21)
  (zc_so (si_iaload F dX8_byKind_23)
  (zc_so (si_istore F dX8_byKind_24)
  (zc_so (si_goto F dX8_byKind_26 rfl)
  (zc_so (si_aload_n F dX8_byKind_29 rfl)
  (zc_so (si_getR (k := 21) F rfl inT8 (by decide) (by decide) rfl rfl tb_725 dX8_byKind_30)
  (zc_so (si_iload F dX8_byKind_33)
  (zc_so (si_iaload F dX8_byKind_35)
  (zc_so (si_istore F dX8_byKind_36)
  (zc_so (si_aload_n F dX8_byKind_38 rfl)
  (zc_so (si_aload_n F dX8_byKind_39 rfl)
  (zc_so (si_getR (k := 22) F rfl inT8 (by decide) (by decide) rfl rfl tb_726 dX8_byKind_40)
  (zc_so (si_iconst F dX8_byKind_43 rfl)
  (zc_so (si_iload F dX8_byKind_44)
  (zc_so (si_imul F dX8_byKind_46)
  (zc_so (si_iload_n F dX8_byKind_47 rfl)
  (zc_so (si_iadd F dX8_byKind_48)
  (zc_so (si_iaload F dX8_byKind_49)
  (zc_so (si_cV F (IH 860 mm860) mp860 (by decide) rfl rfl (by decide) tb_1034 mi860 ms860 mn860 mc860 dX8_byKind_50)
  (zc_so (so_swL F.1.1 F.1.2.1 dX8_byKind_53 (by decide +kernel) rfl ⟨rfl, rfl, ⟨rfl, rfl, ⟨rfl, rfl, ⟨rfl, rfl, ⟨rfl, rfl, ⟨rfl, rfl, ⟨rfl, rfl, ⟨rfl, rfl, ⟨rfl, rfl, ⟨rfl, rfl, trivial⟩⟩⟩⟩⟩⟩⟩⟩⟩⟩)
  (zc_nil)))))))))))))))))))))))))))))))))
theorem sd862_1 (F : zFx p l R s m args meth c D cid kv N0 xs Ls RX8 cX8_byKind 7 n0 z0 nF zE d) (IH : zAllM l D cid kv N0 xs Ls d) (hQ : ∀ v h, Qq v h → v = r0 ∧ h = hF) (hn : nF = zN hF) (hz : zE = zZ hF) (hlocks : meth.locks = false) (hr : meth.sig.returnType = (some .int)) : zSoL p l e R s m args below meth c D cid kv N0 xs Ls 7 (MQ below (zQc D cid kv N0 xs Ls ρ0 r0 hF) args s (nF - n0) (zE - z0) (zA N0)) ρ0 n0 z0 nF zE Qq (zCall d) zt862_1 := zc_nil
theorem sd862_2 (F : zFx p l R s m args meth c D cid kv N0 xs Ls RX8 cX8_byKind 7 n0 z0 nF zE d) (IH : zAllM l D cid kv N0 xs Ls d) (hQ : ∀ v h, Qq v h → v = r0 ∧ h = hF) (hn : nF = zN hF) (hz : zE = zZ hF) (hlocks : meth.locks = false) (hr : meth.sig.returnType = (some .int)) : zSoL p l e R s m args below meth c D cid kv N0 xs Ls 7 (MQ below (zQc D cid kv N0 xs Ls ρ0 r0 hF) args s (nF - n0) (zE - z0) (zA N0)) ρ0 n0 z0 nF zE Qq (zCall d) zt862_2 := zc_so (si_iload F dX8_byKind_144)
  (zc_so (si_iload_n F dX8_byKind_146 rfl)
  (zc_so (si_iadd F dX8_byKind_147)
  (zc_so (si_rI F hQ hn hz hlocks hr (fun _ _ => rfl) dX8_byKind_148)
  (zc_so (si_aload_n F dX8_byKind_149 rfl)
  (zc_so (si_iload_n F dX8_byKind_150 rfl)
  (zc_so (si_iconst F dX8_byKind_151 rfl)
  (zc_so (si_iload F dX8_byKind_152)
  (zc_so (si_cV F (IH 861 mm861) mp861 (by decide) rfl rfl (by decide) tb_1026 mi861 ms861 mn861 mc861 dX8_byKind_154)
  (zc_so (si_aload_n F dX8_byKind_157 rfl)
  (zc_so (si_iload_n F dX8_byKind_158 rfl)
  (zc_so (si_iconst F dX8_byKind_159 rfl)
  (zc_so (si_cV F (IH 808 mm808) mp808 (by decide) rfl rfl (by decide) tb_819 mi808 ms808 mn808 mc808 dX8_byKind_160)
  (zc_so (si_isub F dX8_byKind_163)
  (zc_so (si_rI F hQ hn hz hlocks hr (fun _ _ => rfl) dX8_byKind_164)
  (zc_so (si_aload_n F dX8_byKind_165 rfl)
  (zc_so (si_iload_n F dX8_byKind_166 rfl)
  (zc_so (si_iconst F dX8_byKind_167 rfl)
  (zc_so (si_iload F dX8_byKind_168)
  (zc_so (si_cV F (IH 861 mm861) mp861 (by decide) rfl rfl (by decide) tb_1026 mi861 ms861 mn861 mc861 dX8_byKind_170)
  (zc_so (si_iconst F dX8_byKind_173 rfl)
  (zc_so (si_imul F dX8_byKind_174)
  (zc_so (si_rI F hQ hn hz hlocks hr (fun _ _ => rfl) dX8_byKind_175)
  (zc_so (si_aload_n F dX8_byKind_176 rfl)
  (zc_so (si_iload F dX8_byKind_177)
  (zc_so (si_iload_n F dX8_byKind_179 rfl)
  (zc_so (si_iconst F dX8_byKind_180 rfl)
  (zc_so (si_iload F dX8_byKind_181)
  (zc_so (si_cV F (IH 862 mm862) mp862 (by decide) rfl rfl (by decide) tb_1030 mi862 ms862 mn862 mc862 dX8_byKind_183)
  (zc_so (si_bipush F dX8_byKind_186 rfl)
  (zc_so (si_ixor F dX8_byKind_188)
  (zc_so (si_rI F hQ hn hz hlocks hr (fun _ _ => rfl) dX8_byKind_189)
  (zc_so (si_aload_n F dX8_byKind_190 rfl)
  (zc_so (si_iload F dX8_byKind_191)
  (zc_nil))))))))))))))))))))))))))))))))))
theorem sd862_3 (F : zFx p l R s m args meth c D cid kv N0 xs Ls RX8 cX8_byKind 7 n0 z0 nF zE d) (IH : zAllM l D cid kv N0 xs Ls d) (hQ : ∀ v h, Qq v h → v = r0 ∧ h = hF) (hn : nF = zN hF) (hz : zE = zZ hF) (hlocks : meth.locks = false) (hr : meth.sig.returnType = (some .int)) : zSoL p l e R s m args below meth c D cid kv N0 xs Ls 7 (MQ below (zQc D cid kv N0 xs Ls ρ0 r0 hF) args s (nF - n0) (zE - z0) (zA N0)) ρ0 n0 z0 nF zE Qq (zCall d) zt862_3 := zc_so (si_iload_n F dX8_byKind_193 rfl)
  (zc_so (si_iconst F dX8_byKind_194 rfl)
  (zc_so (si_iload F dX8_byKind_195)
  (zc_so (si_iconst F dX8_byKind_197 rfl)
  (zc_so (si_imul F dX8_byKind_198)
  (zc_so (si_cV F (IH 862 mm862) mp862 (by decide) rfl rfl (by decide) tb_1030 mi862 ms862 mn862 mc862 dX8_byKind_199)
  (zc_so (si_rI F hQ hn hz hlocks hr (fun _ _ => rfl) dX8_byKind_202)
  (zc_so (si_aload_n F dX8_byKind_203 rfl)
  (zc_so (si_iload F dX8_byKind_204)
  (zc_so (si_iload_n F dX8_byKind_206 rfl)
  (zc_so (si_iconst F dX8_byKind_207 rfl)
  (zc_so (si_iload F dX8_byKind_208)
  (zc_so (si_cV F (IH 862 mm862) mp862 (by decide) rfl rfl (by decide) tb_1030 mi862 ms862 mn862 mc862 dX8_byKind_210)
  (zc_so (si_aload_n F dX8_byKind_213 rfl)
  (zc_so (si_iload_n F dX8_byKind_214 rfl)
  (zc_so (si_iconst F dX8_byKind_215 rfl)
  (zc_so (si_iconst F dX8_byKind_216 rfl)
  (zc_so (si_cV F (IH 861 mm861) mp861 (by decide) rfl rfl (by decide) tb_1026 mi861 ms861 mn861 mc861 dX8_byKind_217)
  (zc_so (si_iadd F dX8_byKind_220)
  (zc_so (si_rI F hQ hn hz hlocks hr (fun _ _ => rfl) dX8_byKind_221)
  (zc_so (si_aload_n F dX8_byKind_222 rfl)
  (zc_so (si_iload F dX8_byKind_223)
  (zc_so (si_iload_n F dX8_byKind_225 rfl)
  (zc_so (si_iconst F dX8_byKind_226 rfl)
  (zc_so (si_iload F dX8_byKind_227)
  (zc_so (si_cV F (IH 862 mm862) mp862 (by decide) rfl rfl (by decide) tb_1030 mi862 ms862 mn862 mc862 dX8_byKind_229)
  (zc_so (si_ineg F dX8_byKind_232)
  (zc_so (si_rI F hQ hn hz hlocks hr (fun _ _ => rfl) dX8_byKind_233)
  (zc_so (si_aload_n F dX8_byKind_234 rfl)
  (zc_so (si_iload F dX8_byKind_235)
  (zc_so (si_iload_n F dX8_byKind_237 rfl)
  (zc_so (si_iconst F dX8_byKind_238 rfl)
  (zc_so (si_iload F dX8_byKind_239)
  (zc_so (si_iconst F dX8_byKind_241 rfl)
  (zc_so (si_iadd F dX8_byKind_242)
  (zc_so (si_cV F (IH 862 mm862) mp862 (by decide) rfl rfl (by decide) tb_1030 mi862 ms862 mn862 mc862 dX8_byKind_243)
  (zc_so (si_rI F hQ hn hz hlocks hr (fun _ _ => rfl) dX8_byKind_246)
  (zc_so (si_aload_n F dX8_byKind_247 rfl)
  (zc_so (si_iload F dX8_byKind_248)
  (zc_so (si_iload_n F dX8_byKind_250 rfl)
  (zc_so (si_iconst F dX8_byKind_251 rfl)
  (zc_so (si_iload F dX8_byKind_252)
  (zc_so (si_iload_n F dX8_byKind_254 rfl)
  (zc_so (si_isub F dX8_byKind_255)
  (zc_nil))))))))))))))))))))))))))))))))))))))))))))
theorem sd862_4 (F : zFx p l R s m args meth c D cid kv N0 xs Ls RX8 cX8_byKind 7 n0 z0 nF zE d) (IH : zAllM l D cid kv N0 xs Ls d) (hQ : ∀ v h, Qq v h → v = r0 ∧ h = hF) (hn : nF = zN hF) (hz : zE = zZ hF) (hlocks : meth.locks = false) (hr : meth.sig.returnType = (some .int)) : zSoL p l e R s m args below meth c D cid kv N0 xs Ls 7 (MQ below (zQc D cid kv N0 xs Ls ρ0 r0 hF) args s (nF - n0) (zE - z0) (zA N0)) ρ0 n0 z0 nF zE Qq (zCall d) zt862_4 := zc_so (si_cV F (IH 862 mm862) mp862 (by decide) rfl rfl (by decide) tb_1030 mi862 ms862 mn862 mc862 dX8_byKind_256)
  (zc_so (si_rI F hQ hn hz hlocks hr (fun _ _ => rfl) dX8_byKind_259)
  (zc_so (si_aload_n F dX8_byKind_260 rfl)
  (zc_so (si_iload F dX8_byKind_261)
  (zc_so (si_iload_n F dX8_byKind_263 rfl)
  (zc_so (si_iconst F dX8_byKind_264 rfl)
  (zc_so (si_iload F dX8_byKind_265)
  (zc_so (si_cV F (IH 862 mm862) mp862 (by decide) rfl rfl (by decide) tb_1030 mi862 ms862 mn862 mc862 dX8_byKind_267)
  (zc_so (si_aload_n F dX8_byKind_270 rfl)
  (zc_so (si_iload F dX8_byKind_271)
  (zc_so (si_iload_n F dX8_byKind_273 rfl)
  (zc_so (si_iconst F dX8_byKind_274 rfl)
  (zc_so (si_iconst F dX8_byKind_275 rfl)
  (zc_so (si_cV F (IH 862 mm862) mp862 (by decide) rfl rfl (by decide) tb_1030 mi862 ms862 mn862 mc862 dX8_byKind_276)
  (zc_so (si_iadd F dX8_byKind_279)
  (zc_so (si_rI F hQ hn hz hlocks hr (fun _ _ => rfl) dX8_byKind_280)
  (zc_so (si_aload_n F dX8_byKind_281 rfl)
  (zc_so (si_iload F dX8_byKind_282)
  (zc_so (si_iload_n F dX8_byKind_284 rfl)
  (zc_so (si_iconst F dX8_byKind_285 rfl)
  (zc_so (si_iload F dX8_byKind_286)
  (zc_so (si_cV F (IH 862 mm862) mp862 (by decide) rfl rfl (by decide) tb_1030 mi862 ms862 mn862 mc862 dX8_byKind_288)
  (zc_so (si_aload_n F dX8_byKind_291 rfl)
  (zc_so (si_iload_n F dX8_byKind_292 rfl)
  (zc_so (si_iconst F dX8_byKind_293 rfl)
  (zc_so (si_cV F (IH 808 mm808) mp808 (by decide) rfl rfl (by decide) tb_819 mi808 ms808 mn808 mc808 dX8_byKind_294)
  (zc_so (si_ixor F dX8_byKind_297)
  (zc_so (si_rI F hQ hn hz hlocks hr (fun _ _ => rfl) dX8_byKind_298)
  (zc_nil))))))))))))))))))))))))))))
theorem sd862 (F : zFx p l R s m args meth c D cid kv N0 xs Ls RX8 cX8_byKind 7 n0 z0 nF zE d) (IH : zAllM l D cid kv N0 xs Ls d) (hQ : ∀ v h, Qq v h → v = r0 ∧ h = hF) (hn : nF = zN hF) (hz : zE = zZ hF) (hlocks : meth.locks = false) (hr : meth.sig.returnType = (some .int)) (pc : Nat) : zSo p l e R s m args below meth c D cid kv N0 xs Ls 7 (MQ below (zQc D cid kv N0 xs Ls ρ0 r0 hF) args s (nF - n0) (zE - z0) (zA N0)) ρ0 n0 z0 nF zE Qq (zCall d) pc (zTab 862 pc) := zc_tab [zt862_0, zt862_1, zt862_2, zt862_3, zt862_4] (zc_cons (sd862_0 F IH hQ hn hz hlocks hr) (zc_cons (sd862_1 F IH hQ hn hz hlocks hr) (zc_cons (sd862_2 F IH hQ hn hz hlocks hr) (zc_cons (sd862_3 F IH hQ hn hz hlocks hr) (zc_cons (sd862_4 F IH hQ hn hz hlocks hr) zc_end)))))
theorem dX8_act_0 : decode cX8_act 0 = .ok (.aload_n 0, 1) := by decide +kernel
theorem dX8_act_1 : decode cX8_act 1 = .ok (.iconst 0, 1) := by decide +kernel
theorem dX8_act_2 : decode cX8_act 2 = .ok (.putfield 232, 3) := by decide +kernel
theorem dX8_act_5 : decode cX8_act 5 = .ok (.aload_n 0, 1) := by decide +kernel
theorem dX8_act_6 : decode cX8_act 6 = .ok (.iload_n 1, 1) := by decide +kernel
theorem dX8_act_7 : decode cX8_act 7 = .ok (.invokevirtual 92, 3) := by decide +kernel
theorem dX8_act_10 : decode cX8_act 10 = .ok (.ifCond .eq 22, 3) := by decide +kernel
theorem dX8_act_13 : decode cX8_act 13 = .ok (.iload_n 2, 1) := by decide +kernel
theorem dX8_act_14 : decode cX8_act 14 = .ok (.iconst 0, 1) := by decide +kernel
theorem dX8_act_15 : decode cX8_act 15 = .ok (.iconst 2, 1) := by decide +kernel
theorem dX8_act_16 : decode cX8_act 16 = .ok (.invokestatic 84, 3) := by decide +kernel
theorem dX8_act_19 : decode cX8_act 19 = .ok (.ifCond .eq 13, 3) := by decide +kernel
theorem dX8_act_22 : decode cX8_act 22 = .ok (.aload_n 0, 1) := by decide +kernel
theorem dX8_act_23 : decode cX8_act 23 = .ok (.iload_n 1, 1) := by decide +kernel
theorem dX8_act_24 : decode cX8_act 24 = .ok (.iload_n 2, 1) := by decide +kernel
theorem dX8_act_25 : decode cX8_act 25 = .ok (.iload_n 3, 1) := by decide +kernel
theorem dX8_act_26 : decode cX8_act 26 = .ok (.invokevirtual 241, 3) := by decide +kernel
theorem dX8_act_29 : decode cX8_act 29 = .ok (.goto 4, 3) := by decide +kernel
theorem dX8_act_32 : decode cX8_act 32 = .ok (.iconst 0, 1) := by decide +kernel
theorem dX8_act_33 : decode cX8_act 33 = .ok (.ireturn, 1) := by decide +kernel
theorem sd863_0 (F : zFx p l R s m args meth c D cid kv N0 xs Ls RX8 cX8_act 4 n0 z0 nF zE d) (IH : zAllM l D cid kv N0 xs Ls d) (hQ : ∀ v h, Qq v h → v = r0 ∧ h = hF) (hn : nF = zN hF) (hz : zE = zZ hF) (hlocks : meth.locks = false) (hr : meth.sig.returnType = (some .int)) : zSoL p l e R s m args below meth c D cid kv N0 xs Ls 4 (MQ below (zQc D cid kv N0 xs Ls ρ0 r0 hF) args s (nF - n0) (zE - z0) (zA N0)) ρ0 n0 z0 nF zE Qq (zCall d) zt863_0 := zc_so (si_aload_n F dX8_act_0 rfl)
  (zc_so (si_iconst F dX8_act_1 rfl)
  (zc_so (si_putI (k := 24) F rfl inT8 (by decide) (by decide) rfl rfl rfl rfl tyX8_ok nmX8 tb_728 dX8_act_2)
  (zc_so (si_aload_n F dX8_act_5 rfl)
  (zc_so (si_iload_n F dX8_act_6 rfl)
  (zc_so (si_cV F (IH 807 mm807) mp807 (by decide) rfl rfl (by decide) tb_815 mi807 ms807 mn807 mc807 dX8_act_7)
  (zc_so (si_ifeq F dX8_act_10 rfl)
  (zc_so (si_iload_n F dX8_act_13 rfl)
  (zc_so (si_iconst F dX8_act_14 rfl)
  (zc_so (si_iconst F dX8_act_15 rfl)
  (zc_so (si_cS  F (IH 802 mm802) mp802 (by decide) tb_808 mi802 mn802 mc802 dX8_act_16)
  (zc_so (si_ifeq F dX8_act_19 rfl)
  (zc_so (si_aload_n F dX8_act_22 rfl)
  (zc_so (si_iload_n F dX8_act_23 rfl)
  (zc_so (si_iload_n F dX8_act_24 rfl)
  (zc_so (si_iload_n F dX8_act_25 rfl)
  (zc_so (si_cV F (IH 861 mm861) mp861 (by decide) rfl rfl (by decide) tb_1026 mi861 ms861 mn861 mc861 dX8_act_26)
  (zc_so (si_goto F dX8_act_29 rfl)
  (zc_so (si_iconst F dX8_act_32 rfl)
  (zc_so (si_rI F hQ hn hz hlocks hr (fun _ _ => rfl) dX8_act_33)
  (zc_nil))))))))))))))))))))
theorem sd863 (F : zFx p l R s m args meth c D cid kv N0 xs Ls RX8 cX8_act 4 n0 z0 nF zE d) (IH : zAllM l D cid kv N0 xs Ls d) (hQ : ∀ v h, Qq v h → v = r0 ∧ h = hF) (hn : nF = zN hF) (hz : zE = zZ hF) (hlocks : meth.locks = false) (hr : meth.sig.returnType = (some .int)) (pc : Nat) : zSo p l e R s m args below meth c D cid kv N0 xs Ls 4 (MQ below (zQc D cid kv N0 xs Ls ρ0 r0 hF) args s (nF - n0) (zE - z0) (zA N0)) ρ0 n0 z0 nF zE Qq (zCall d) pc (zTab 863 pc) := zc_tab [zt863_0] (zc_cons (sd863_0 F IH hQ hn hz hlocks hr) zc_end)
theorem dX8_trace_0 : decode cX8_trace 0 = .ok (.iload_n 1, 1) := by decide +kernel
theorem dX8_trace_1 : decode cX8_trace 1 = .ok (.iconst 0, 1) := by decide +kernel
theorem dX8_trace_2 : decode cX8_trace 2 = .ok (.bipush 20, 2) := by decide +kernel
theorem dX8_trace_4 : decode cX8_trace 4 = .ok (.aload_n 0, 1) := by decide +kernel
theorem dX8_trace_5 : decode cX8_trace 5 = .ok (.getfield 232, 3) := by decide +kernel
theorem dX8_trace_8 : decode cX8_trace 8 = .ok (.invokestatic 171, 3) := by decide +kernel
theorem dX8_trace_11 : decode cX8_trace 11 = .ok (.iconst 1, 1) := by decide +kernel
theorem dX8_trace_12 : decode cX8_trace 12 = .ok (.isub, 1) := by decide +kernel
theorem dX8_trace_13 : decode cX8_trace 13 = .ok (.invokestatic 84, 3) := by decide +kernel
theorem dX8_trace_16 : decode cX8_trace 16 = .ok (.ifCond .eq 12, 3) := by decide +kernel
theorem dX8_trace_19 : decode cX8_trace 19 = .ok (.aload_n 0, 1) := by decide +kernel
theorem dX8_trace_20 : decode cX8_trace 20 = .ok (.getfield 60, 3) := by decide +kernel
theorem dX8_trace_23 : decode cX8_trace 23 = .ok (.iload_n 1, 1) := by decide +kernel
theorem dX8_trace_24 : decode cX8_trace 24 = .ok (.iaload, 1) := by decide +kernel
theorem dX8_trace_25 : decode cX8_trace 25 = .ok (.goto 4, 3) := by decide +kernel
theorem dX8_trace_28 : decode cX8_trace 28 = .ok (.iconst (-1), 1) := by decide +kernel
theorem dX8_trace_29 : decode cX8_trace 29 = .ok (.ireturn, 1) := by decide +kernel
theorem sd864_0 (F : zFx p l R s m args meth c D cid kv N0 xs Ls RX8 cX8_trace 2 n0 z0 nF zE d) (IH : zAllM l D cid kv N0 xs Ls d) (hQ : ∀ v h, Qq v h → v = r0 ∧ h = hF) (hn : nF = zN hF) (hz : zE = zZ hF) (hlocks : meth.locks = false) (hr : meth.sig.returnType = (some .int)) : zSoL p l e R s m args below meth c D cid kv N0 xs Ls 2 (MQ below (zQc D cid kv N0 xs Ls ρ0 r0 hF) args s (nF - n0) (zE - z0) (zA N0)) ρ0 n0 z0 nF zE Qq (zCall d) zt864_0 := zc_so (si_iload_n F dX8_trace_0 rfl)
  (zc_so (si_iconst F dX8_trace_1 rfl)
  (zc_so (si_bipush F dX8_trace_2 rfl)
  (zc_so (si_aload_n F dX8_trace_4 rfl)
  (zc_so (si_getI (k := 24) F rfl inT8 (by decide) (by decide) rfl rfl tb_728 dX8_trace_5)
  (zc_so (si_min F tb_871 tb_298 tb_5 tb_299 dX8_trace_8)
  (zc_so (si_iconst F dX8_trace_11 rfl)
  (zc_so (si_isub F dX8_trace_12)
  (zc_so (si_cS  F (IH 802 mm802) mp802 (by decide) tb_808 mi802 mn802 mc802 dX8_trace_13)
  (zc_so (si_ifeq F dX8_trace_16 rfl)
  (zc_so (si_aload_n F dX8_trace_19 rfl)
  (zc_so (si_getR (k := 23) F rfl inT8 (by decide) (by decide) rfl rfl tb_727 dX8_trace_20)
  (zc_so (si_iload_n F dX8_trace_23 rfl)
  (zc_so (si_iaload F dX8_trace_24)
  (zc_so (si_goto F dX8_trace_25 rfl)
  (zc_so (si_iconst F dX8_trace_28 rfl)
  (zc_so (si_rI F hQ hn hz hlocks hr (fun _ _ => rfl) dX8_trace_29)
  (zc_nil)))))))))))))))))
theorem sd864 (F : zFx p l R s m args meth c D cid kv N0 xs Ls RX8 cX8_trace 2 n0 z0 nF zE d) (IH : zAllM l D cid kv N0 xs Ls d) (hQ : ∀ v h, Qq v h → v = r0 ∧ h = hF) (hn : nF = zN hF) (hz : zE = zZ hF) (hlocks : meth.locks = false) (hr : meth.sig.returnType = (some .int)) (pc : Nat) : zSo p l e R s m args below meth c D cid kv N0 xs Ls 2 (MQ below (zQc D cid kv N0 xs Ls ρ0 r0 hF) args s (nF - n0) (zE - z0) (zA N0)) ρ0 n0 z0 nF zE Qq (zCall d) pc (zTab 864 pc) := zc_tab [zt864_0] (zc_cons (sd864_0 F IH hQ hn hz hlocks hr) zc_end)
theorem dX8_taken_0 : decode cX8_taken 0 = .ok (.iload_n 2, 1) := by decide +kernel
theorem dX8_taken_1 : decode cX8_taken 1 = .ok (.iconst 0, 1) := by decide +kernel
theorem dX8_taken_2 : decode cX8_taken 2 = .ok (.bipush 6, 2) := by decide +kernel
theorem dX8_taken_4 : decode cX8_taken 4 = .ok (.invokestatic 84, 3) := by decide +kernel
theorem dX8_taken_7 : decode cX8_taken 7 = .ok (.ifCond .ne 6, 3) := by decide +kernel
theorem dX8_taken_10 : decode cX8_taken 10 = .ok (.bipush (-2), 2) := by decide +kernel
theorem dX8_taken_12 : decode cX8_taken 12 = .ok (.ireturn, 1) := by decide +kernel
theorem dX8_taken_13 : decode cX8_taken 13 = .ok (.aload_n 0, 1) := by decide +kernel
theorem dX8_taken_14 : decode cX8_taken 14 = .ok (.iload_n 1, 1) := by decide +kernel
theorem dX8_taken_15 : decode cX8_taken 15 = .ok (.invokevirtual 92, 3) := by decide +kernel
theorem dX8_taken_18 : decode cX8_taken 18 = .ok (.ifCond .ne 6, 3) := by decide +kernel
theorem dX8_taken_21 : decode cX8_taken 21 = .ok (.bipush (-11), 2) := by decide +kernel
theorem dX8_taken_23 : decode cX8_taken 23 = .ok (.ireturn, 1) := by decide +kernel
theorem dX8_taken_24 : decode cX8_taken 24 = .ok (.aload_n 0, 1) := by decide +kernel
theorem dX8_taken_25 : decode cX8_taken 25 = .ok (.iload_n 1, 1) := by decide +kernel
theorem dX8_taken_26 : decode cX8_taken 26 = .ok (.iconst 0, 1) := by decide +kernel
theorem dX8_taken_27 : decode cX8_taken 27 = .ok (.invokevirtual 88, 3) := by decide +kernel
theorem dX8_taken_30 : decode cX8_taken 30 = .ok (.istore_n 3, 1) := by decide +kernel
theorem dX8_taken_31 : decode cX8_taken 31 = .ok (.iload_n 3, 1) := by decide +kernel
theorem dX8_taken_32 : decode cX8_taken 32 = .ok (.iconst (-1), 1) := by decide +kernel
theorem dX8_taken_33 : decode cX8_taken 33 = .ok (.if_icmp .eq 18, 3) := by decide +kernel
theorem dX8_taken_36 : decode cX8_taken 36 = .ok (.iload_n 3, 1) := by decide +kernel
theorem dX8_taken_37 : decode cX8_taken 37 = .ok (.iload_n 2, 1) := by decide +kernel
theorem dX8_taken_38 : decode cX8_taken 38 = .ok (.if_icmp .eq 13, 3) := by decide +kernel
theorem dX8_taken_41 : decode cX8_taken 41 = .ok (.aload_n 0, 1) := by decide +kernel
theorem dX8_taken_42 : decode cX8_taken 42 = .ok (.getfield 54, 3) := by decide +kernel
theorem dX8_taken_45 : decode cX8_taken 45 = .ok (.iload_n 3, 1) := by decide +kernel
theorem dX8_taken_46 : decode cX8_taken 46 = .ok (.iaload, 1) := by decide +kernel
theorem dX8_taken_47 : decode cX8_taken 47 = .ok (.istore_n 3, 1) := by decide +kernel
theorem dX8_taken_48 : decode cX8_taken 48 = .ok (.goto (-17), 3) := by decide +kernel
theorem dX8_taken_51 : decode cX8_taken 51 = .ok (.iload_n 3, 1) := by decide +kernel
theorem dX8_taken_52 : decode cX8_taken 52 = .ok (.iload_n 2, 1) := by decide +kernel
theorem dX8_taken_53 : decode cX8_taken 53 = .ok (.if_icmp .ne 12, 3) := by decide +kernel
theorem dX8_taken_56 : decode cX8_taken 56 = .ok (.aload_n 0, 1) := by decide +kernel
theorem dX8_taken_57 : decode cX8_taken 57 = .ok (.iload_n 1, 1) := by decide +kernel
theorem dX8_taken_58 : decode cX8_taken 58 = .ok (.iconst 0, 1) := by decide +kernel
theorem dX8_taken_59 : decode cX8_taken 59 = .ok (.invokevirtual 88, 3) := by decide +kernel
theorem dX8_taken_62 : decode cX8_taken 62 = .ok (.goto 5, 3) := by decide +kernel
theorem dX8_taken_65 : decode cX8_taken 65 = .ok (.bipush (-12), 2) := by decide +kernel
theorem dX8_taken_67 : decode cX8_taken 67 = .ok (.ireturn, 1) := by decide +kernel
theorem sd865_0 (F : zFx p l R s m args meth c D cid kv N0 xs Ls RX8 cX8_taken 4 n0 z0 nF zE d) (IH : zAllM l D cid kv N0 xs Ls d) (hQ : ∀ v h, Qq v h → v = r0 ∧ h = hF) (hn : nF = zN hF) (hz : zE = zZ hF) (hlocks : meth.locks = false) (hr : meth.sig.returnType = (some .int)) : zSoL p l e R s m args below meth c D cid kv N0 xs Ls 4 (MQ below (zQc D cid kv N0 xs Ls ρ0 r0 hF) args s (nF - n0) (zE - z0) (zA N0)) ρ0 n0 z0 nF zE Qq (zCall d) zt865_0 := zc_so (si_iload_n F dX8_taken_0 rfl)
  (zc_so (si_iconst F dX8_taken_1 rfl)
  (zc_so (si_bipush F dX8_taken_2 rfl)
  (zc_so (si_cS  F (IH 802 mm802) mp802 (by decide) tb_808 mi802 mn802 mc802 dX8_taken_4)
  (zc_so (si_ifne F dX8_taken_7 rfl)
  (zc_so (si_bipush F dX8_taken_10 rfl)
  (zc_so (si_rI F hQ hn hz hlocks hr (fun _ _ => rfl) dX8_taken_12)
  (zc_so (si_aload_n F dX8_taken_13 rfl)
  (zc_so (si_iload_n F dX8_taken_14 rfl)
  (zc_so (si_cV F (IH 807 mm807) mp807 (by decide) rfl rfl (by decide) tb_815 mi807 ms807 mn807 mc807 dX8_taken_15)
  (zc_so (si_ifne F dX8_taken_18 rfl)
  (zc_so (si_bipush F dX8_taken_21 rfl)
  (zc_so (si_rI F hQ hn hz hlocks hr (fun _ _ => rfl) dX8_taken_23)
  (zc_so (si_aload_n F dX8_taken_24 rfl)
  (zc_so (si_iload_n F dX8_taken_25 rfl)
  (zc_so (si_iconst F dX8_taken_26 rfl)
  (zc_so (si_cV F (IH 808 mm808) mp808 (by decide) rfl rfl (by decide) tb_819 mi808 ms808 mn808 mc808 dX8_taken_27)
  (zc_so (si_istore_n F dX8_taken_30 rfl)
  (zc_so (si_iload_n F dX8_taken_31 rfl)
  (zc_so (si_iconst F dX8_taken_32 rfl)
  (zc_so (si_iceq F dX8_taken_33 rfl)
  (zc_so (si_iload_n F dX8_taken_36 rfl)
  (zc_so (si_iload_n F dX8_taken_37 rfl)
  (zc_so (si_iceq F dX8_taken_38 rfl)
  (zc_so (si_aload_n F dX8_taken_41 rfl)
  (zc_so (si_getR (k := 21) F rfl inT8 (by decide) (by decide) rfl rfl tb_725 dX8_taken_42)
  (zc_so (si_iload_n F dX8_taken_45 rfl)
  (zc_so (si_iaload F dX8_taken_46)
  (zc_so (si_istore_n F dX8_taken_47 rfl)
  (zc_so (si_goto F dX8_taken_48 rfl)
  (zc_so (si_iload_n F dX8_taken_51 rfl)
  (zc_so (si_iload_n F dX8_taken_52 rfl)
  (zc_so (si_icne F dX8_taken_53 rfl)
  (zc_so (si_aload_n F dX8_taken_56 rfl)
  (zc_so (si_iload_n F dX8_taken_57 rfl)
  (zc_so (si_iconst F dX8_taken_58 rfl)
  (zc_so (si_cV F (IH 808 mm808) mp808 (by decide) rfl rfl (by decide) tb_819 mi808 ms808 mn808 mc808 dX8_taken_59)
  (zc_so (si_goto F dX8_taken_62 rfl)
  (zc_nil))))))))))))))))))))))))))))))))))))))
theorem sd865_1 (F : zFx p l R s m args meth c D cid kv N0 xs Ls RX8 cX8_taken 4 n0 z0 nF zE d) (IH : zAllM l D cid kv N0 xs Ls d) (hQ : ∀ v h, Qq v h → v = r0 ∧ h = hF) (hn : nF = zN hF) (hz : zE = zZ hF) (hlocks : meth.locks = false) (hr : meth.sig.returnType = (some .int)) : zSoL p l e R s m args below meth c D cid kv N0 xs Ls 4 (MQ below (zQc D cid kv N0 xs Ls ρ0 r0 hF) args s (nF - n0) (zE - z0) (zA N0)) ρ0 n0 z0 nF zE Qq (zCall d) zt865_1 := zc_so (si_bipush F dX8_taken_65 rfl)
  (zc_so (si_rI F hQ hn hz hlocks hr (fun _ _ => rfl) dX8_taken_67)
  (zc_nil))
theorem sd865 (F : zFx p l R s m args meth c D cid kv N0 xs Ls RX8 cX8_taken 4 n0 z0 nF zE d) (IH : zAllM l D cid kv N0 xs Ls d) (hQ : ∀ v h, Qq v h → v = r0 ∧ h = hF) (hn : nF = zN hF) (hz : zE = zZ hF) (hlocks : meth.locks = false) (hr : meth.sig.returnType = (some .int)) (pc : Nat) : zSo p l e R s m args below meth c D cid kv N0 xs Ls 4 (MQ below (zQc D cid kv N0 xs Ls ρ0 r0 hF) args s (nF - n0) (zE - z0) (zA N0)) ρ0 n0 z0 nF zE Qq (zCall d) pc (zTab 865 pc) := zc_tab [zt865_0, zt865_1] (zc_cons (sd865_0 F IH hQ hn hz hlocks hr) (zc_cons (sd865_1 F IH hQ hn hz hlocks hr) zc_end))
theorem dX8_count_0 : decode cX8_count 0 = .ok (.iload_n 1, 1) := by decide +kernel
theorem dX8_count_1 : decode cX8_count 1 = .ok (.tableswitch 90 0 6 #[43, 51, 56, 64, 72, 80, 85], 43) := by decide +kernel
theorem dX8_count_44 : decode cX8_count 44 = .ok (.aload_n 0, 1) := by decide +kernel
theorem dX8_count_45 : decode cX8_count 45 = .ok (.getfield 15, 3) := by decide +kernel
theorem dX8_count_48 : decode cX8_count 48 = .ok (.bipush 60, 2) := by decide +kernel
theorem dX8_count_50 : decode cX8_count 50 = .ok (.iaload, 1) := by decide +kernel
theorem dX8_count_51 : decode cX8_count 51 = .ok (.ireturn, 1) := by decide +kernel
theorem dX8_count_52 : decode cX8_count 52 = .ok (.aload_n 0, 1) := by decide +kernel
theorem dX8_count_53 : decode cX8_count 53 = .ok (.getfield 165, 3) := by decide +kernel
theorem dX8_count_56 : decode cX8_count 56 = .ok (.ireturn, 1) := by decide +kernel
theorem dX8_count_57 : decode cX8_count 57 = .ok (.aload_n 0, 1) := by decide +kernel
theorem dX8_count_58 : decode cX8_count 58 = .ok (.getfield 15, 3) := by decide +kernel
theorem dX8_count_61 : decode cX8_count 61 = .ok (.bipush 64, 2) := by decide +kernel
theorem dX8_count_63 : decode cX8_count 63 = .ok (.iaload, 1) := by decide +kernel
theorem dX8_count_64 : decode cX8_count 64 = .ok (.ireturn, 1) := by decide +kernel
theorem dX8_count_65 : decode cX8_count 65 = .ok (.aload_n 0, 1) := by decide +kernel
theorem dX8_count_66 : decode cX8_count 66 = .ok (.getfield 15, 3) := by decide +kernel
theorem dX8_count_69 : decode cX8_count 69 = .ok (.bipush 80, 2) := by decide +kernel
theorem dX8_count_71 : decode cX8_count 71 = .ok (.iaload, 1) := by decide +kernel
theorem dX8_count_72 : decode cX8_count 72 = .ok (.ireturn, 1) := by decide +kernel
theorem dX8_count_73 : decode cX8_count 73 = .ok (.aload_n 0, 1) := by decide +kernel
theorem dX8_count_74 : decode cX8_count 74 = .ok (.getfield 15, 3) := by decide +kernel
theorem dX8_count_77 : decode cX8_count 77 = .ok (.bipush 101, 2) := by decide +kernel
theorem dX8_count_79 : decode cX8_count 79 = .ok (.iaload, 1) := by decide +kernel
theorem dX8_count_80 : decode cX8_count 80 = .ok (.ireturn, 1) := by decide +kernel
theorem dX8_count_81 : decode cX8_count 81 = .ok (.aload_n 0, 1) := by decide +kernel
theorem dX8_count_82 : decode cX8_count 82 = .ok (.getfield 111, 3) := by decide +kernel
theorem dX8_count_85 : decode cX8_count 85 = .ok (.ireturn, 1) := by decide +kernel
theorem dX8_count_86 : decode cX8_count 86 = .ok (.aload_n 0, 1) := by decide +kernel
theorem dX8_count_87 : decode cX8_count 87 = .ok (.getfield 232, 3) := by decide +kernel
theorem dX8_count_90 : decode cX8_count 90 = .ok (.ireturn, 1) := by decide +kernel
theorem dX8_count_91 : decode cX8_count 91 = .ok (.bipush (-2), 2) := by decide +kernel
theorem dX8_count_93 : decode cX8_count 93 = .ok (.ireturn, 1) := by decide +kernel
theorem sd866_0 (F : zFx p l R s m args meth c D cid kv N0 xs Ls RX8 cX8_count 2 n0 z0 nF zE d) (IH : zAllM l D cid kv N0 xs Ls d) (hQ : ∀ v h, Qq v h → v = r0 ∧ h = hF) (hn : nF = zN hF) (hz : zE = zZ hF) (hlocks : meth.locks = false) (hr : meth.sig.returnType = (some .int)) : zSoL p l e R s m args below meth c D cid kv N0 xs Ls 2 (MQ below (zQc D cid kv N0 xs Ls ρ0 r0 hF) args s (nF - n0) (zE - z0) (zA N0)) ρ0 n0 z0 nF zE Qq (zCall d) zt866_0 := zc_so (si_iload_n F dX8_count_0 rfl)
  (zc_so (so_swT F.1.1 F.1.2.1 dX8_count_1 rfl rfl ⟨rfl, rfl, ⟨rfl, rfl, ⟨rfl, rfl, ⟨rfl, rfl, ⟨rfl, rfl, ⟨rfl, rfl, ⟨rfl, rfl, trivial⟩⟩⟩⟩⟩⟩⟩)
  (zc_so (si_aload_n F dX8_count_44 rfl)
  (zc_so (si_getR (k := 0) F rfl inT8 (by decide) (by decide) rfl rfl tb_704 dX8_count_45)
  (zc_so (si_bipush F dX8_count_48 rfl)
  (zc_so (si_iaload F dX8_count_50)
  (zc_so (si_rI F hQ hn hz hlocks hr (fun _ _ => rfl) dX8_count_51)
  (zc_so (si_aload_n F dX8_count_52 rfl)
  (zc_so (si_getI (k := 9) F rfl inT8 (by decide) (by decide) rfl rfl tb_713 dX8_count_53)
  (zc_so (si_rI F hQ hn hz hlocks hr (fun _ _ => rfl) dX8_count_56)
  (zc_so (si_aload_n F dX8_count_57 rfl)
  (zc_so (si_getR (k := 0) F rfl inT8 (by decide) (by decide) rfl rfl tb_704 dX8_count_58)
  (zc_so (si_bipush F dX8_count_61 rfl)
  (zc_so (si_iaload F dX8_count_63)
  (zc_nil))))))))))))))
theorem sd866_1 (F : zFx p l R s m args meth c D cid kv N0 xs Ls RX8 cX8_count 2 n0 z0 nF zE d) (IH : zAllM l D cid kv N0 xs Ls d) (hQ : ∀ v h, Qq v h → v = r0 ∧ h = hF) (hn : nF = zN hF) (hz : zE = zZ hF) (hlocks : meth.locks = false) (hr : meth.sig.returnType = (some .int)) : zSoL p l e R s m args below meth c D cid kv N0 xs Ls 2 (MQ below (zQc D cid kv N0 xs Ls ρ0 r0 hF) args s (nF - n0) (zE - z0) (zA N0)) ρ0 n0 z0 nF zE Qq (zCall d) zt866_1 := zc_so (si_rI F hQ hn hz hlocks hr (fun _ _ => rfl) dX8_count_64)
  (zc_so (si_aload_n F dX8_count_65 rfl)
  (zc_so (si_getR (k := 0) F rfl inT8 (by decide) (by decide) rfl rfl tb_704 dX8_count_66)
  (zc_so (si_bipush F dX8_count_69 rfl)
  (zc_so (si_iaload F dX8_count_71)
  (zc_so (si_rI F hQ hn hz hlocks hr (fun _ _ => rfl) dX8_count_72)
  (zc_so (si_aload_n F dX8_count_73 rfl)
  (zc_so (si_getR (k := 0) F rfl inT8 (by decide) (by decide) rfl rfl tb_704 dX8_count_74)
  (zc_so (si_bipush F dX8_count_77 rfl)
  (zc_so (si_iaload F dX8_count_79)
  (zc_so (si_rI F hQ hn hz hlocks hr (fun _ _ => rfl) dX8_count_80)
  (zc_so (si_aload_n F dX8_count_81 rfl)
  (zc_so (si_getI (k := 6) F rfl inT8 (by decide) (by decide) rfl rfl tb_710 dX8_count_82)
  (zc_so (si_rI F hQ hn hz hlocks hr (fun _ _ => rfl) dX8_count_85)
  (zc_so (si_aload_n F dX8_count_86 rfl)
  (zc_so (si_getI (k := 24) F rfl inT8 (by decide) (by decide) rfl rfl tb_728 dX8_count_87)
  (zc_so (si_rI F hQ hn hz hlocks hr (fun _ _ => rfl) dX8_count_90)
  (zc_so (si_bipush F dX8_count_91 rfl)
  (zc_so (si_rI F hQ hn hz hlocks hr (fun _ _ => rfl) dX8_count_93)
  (zc_nil)))))))))))))))))))
theorem sd866 (F : zFx p l R s m args meth c D cid kv N0 xs Ls RX8 cX8_count 2 n0 z0 nF zE d) (IH : zAllM l D cid kv N0 xs Ls d) (hQ : ∀ v h, Qq v h → v = r0 ∧ h = hF) (hn : nF = zN hF) (hz : zE = zZ hF) (hlocks : meth.locks = false) (hr : meth.sig.returnType = (some .int)) (pc : Nat) : zSo p l e R s m args below meth c D cid kv N0 xs Ls 2 (MQ below (zQc D cid kv N0 xs Ls ρ0 r0 hF) args s (nF - n0) (zE - z0) (zA N0)) ρ0 n0 z0 nF zE Qq (zCall d) pc (zTab 866 pc) := zc_tab [zt866_0, zt866_1] (zc_cons (sd866_0 F IH hQ hn hz hlocks hr) (zc_cons (sd866_1 F IH hQ hn hz hlocks hr) zc_end))
theorem dX8_isTape_0 : decode cX8_isTape 0 = .ok (.iload_n 0, 1) := by decide +kernel
theorem dX8_isTape_1 : decode cX8_isTape 1 = .ok (.iconst 0, 1) := by decide +kernel
theorem dX8_isTape_2 : decode cX8_isTape 2 = .ok (.iconst 5, 1) := by decide +kernel
theorem dX8_isTape_3 : decode cX8_isTape 3 = .ok (.invokestatic 84, 3) := by decide +kernel
theorem dX8_isTape_6 : decode cX8_isTape 6 = .ok (.ireturn, 1) := by decide +kernel
theorem sd867_0 (F : zFx p l R s m args meth c D cid kv N0 xs Ls RX8 cX8_isTape 1 n0 z0 nF zE d) (IH : zAllM l D cid kv N0 xs Ls d) (hQ : ∀ v h, Qq v h → v = r0 ∧ h = hF) (hn : nF = zN hF) (hz : zE = zZ hF) (hlocks : meth.locks = false) (hr : meth.sig.returnType = (some .boolean)) : zSoL p l e R s m args below meth c D cid kv N0 xs Ls 1 (MQ below (zQc D cid kv N0 xs Ls ρ0 r0 hF) args s (nF - n0) (zE - z0) (zA N0)) ρ0 n0 z0 nF zE Qq (zCall d) zt867_0 := zc_so (si_iload_n F dX8_isTape_0 rfl)
  (zc_so (si_iconst F dX8_isTape_1 rfl)
  (zc_so (si_iconst F dX8_isTape_2 rfl)
  (zc_so (si_cS  F (IH 802 mm802) mp802 (by decide) tb_808 mi802 mn802 mc802 dX8_isTape_3)
  (zc_so (si_rI F hQ hn hz hlocks hr (fun x h => by rcases h with rfl | rfl <;> rfl) dX8_isTape_6)
  (zc_nil)))))
theorem sd867 (F : zFx p l R s m args meth c D cid kv N0 xs Ls RX8 cX8_isTape 1 n0 z0 nF zE d) (IH : zAllM l D cid kv N0 xs Ls d) (hQ : ∀ v h, Qq v h → v = r0 ∧ h = hF) (hn : nF = zN hF) (hz : zE = zZ hF) (hlocks : meth.locks = false) (hr : meth.sig.returnType = (some .boolean)) (pc : Nat) : zSo p l e R s m args below meth c D cid kv N0 xs Ls 1 (MQ below (zQc D cid kv N0 xs Ls ρ0 r0 hF) args s (nF - n0) (zE - z0) (zA N0)) ρ0 n0 z0 nF zE Qq (zCall d) pc (zTab 867 pc) := zc_tab [zt867_0] (zc_cons (sd867_0 F IH hQ hn hz hlocks hr) zc_end)
theorem dX8_tape_0 : decode cX8_tape 0 = .ok (.iload_n 1, 1) := by decide +kernel
theorem dX8_tape_1 : decode cX8_tape 1 = .ok (.invokestatic 244, 3) := by decide +kernel
theorem dX8_tape_4 : decode cX8_tape 4 = .ok (.ifCond .ne 5, 3) := by decide +kernel
theorem dX8_tape_7 : decode cX8_tape 7 = .ok (.iconst (-1), 1) := by decide +kernel
theorem dX8_tape_8 : decode cX8_tape 8 = .ok (.ireturn, 1) := by decide +kernel
theorem dX8_tape_9 : decode cX8_tape 9 = .ok (.iload_n 2, 1) := by decide +kernel
theorem dX8_tape_10 : decode cX8_tape 10 = .ok (.iconst (-1), 1) := by decide +kernel
theorem dX8_tape_11 : decode cX8_tape 11 = .ok (.iconst 4, 1) := by decide +kernel
theorem dX8_tape_12 : decode cX8_tape 12 = .ok (.invokestatic 84, 3) := by decide +kernel
theorem dX8_tape_15 : decode cX8_tape 15 = .ok (.ifCond .eq 13, 3) := by decide +kernel
theorem dX8_tape_18 : decode cX8_tape 18 = .ok (.iload_n 2, 1) := by decide +kernel
theorem dX8_tape_19 : decode cX8_tape 19 = .ok (.ifCond .lt 12, 3) := by decide +kernel
theorem dX8_tape_22 : decode cX8_tape 22 = .ok (.iload_n 3, 1) := by decide +kernel
theorem dX8_tape_23 : decode cX8_tape 23 = .ok (.bipush 60, 2) := by decide +kernel
theorem dX8_tape_25 : decode cX8_tape 25 = .ok (.if_icmp .le 6, 3) := by decide +kernel
theorem dX8_tape_28 : decode cX8_tape 28 = .ok (.bipush (-2), 2) := by decide +kernel
theorem dX8_tape_30 : decode cX8_tape 30 = .ok (.ireturn, 1) := by decide +kernel
theorem dX8_tape_31 : decode cX8_tape 31 = .ok (.iload_n 2, 1) := by decide +kernel
theorem dX8_tape_32 : decode cX8_tape 32 = .ok (.ifCond .lt 10, 3) := by decide +kernel
theorem dX8_tape_35 : decode cX8_tape 35 = .ok (.iload_n 3, 1) := by decide +kernel
theorem dX8_tape_36 : decode cX8_tape 36 = .ok (.ifCond .ge 6, 3) := by decide +kernel
theorem dX8_tape_39 : decode cX8_tape 39 = .ok (.bipush (-14), 2) := by decide +kernel
theorem dX8_tape_41 : decode cX8_tape 41 = .ok (.ireturn, 1) := by decide +kernel
theorem dX8_tape_42 : decode cX8_tape 42 = .ok (.aload_n 0, 1) := by decide +kernel
theorem dX8_tape_43 : decode cX8_tape 43 = .ok (.getfield 63, 3) := by decide +kernel
theorem dX8_tape_46 : decode cX8_tape 46 = .ok (.iload_n 1, 1) := by decide +kernel
theorem dX8_tape_47 : decode cX8_tape 47 = .ok (.iload_n 2, 1) := by decide +kernel
theorem dX8_tape_48 : decode cX8_tape 48 = .ok (.iastore, 1) := by decide +kernel
theorem dX8_tape_49 : decode cX8_tape 49 = .ok (.aload_n 0, 1) := by decide +kernel
theorem dX8_tape_50 : decode cX8_tape 50 = .ok (.getfield 66, 3) := by decide +kernel
theorem dX8_tape_53 : decode cX8_tape 53 = .ok (.iload_n 1, 1) := by decide +kernel
theorem dX8_tape_54 : decode cX8_tape 54 = .ok (.iload_n 2, 1) := by decide +kernel
theorem dX8_tape_55 : decode cX8_tape 55 = .ok (.ifCond .ge 7, 3) := by decide +kernel
theorem dX8_tape_58 : decode cX8_tape 58 = .ok (.iconst 0, 1) := by decide +kernel
theorem dX8_tape_59 : decode cX8_tape 59 = .ok (.goto 4, 3) := by decide +kernel
theorem dX8_tape_62 : decode cX8_tape 62 = .ok (.iload_n 3, 1) := by decide +kernel
theorem dX8_tape_63 : decode cX8_tape 63 = .ok (.iastore, 1) := by decide +kernel
theorem dX8_tape_64 : decode cX8_tape 64 = .ok (.iconst 0, 1) := by decide +kernel
theorem dX8_tape_65 : decode cX8_tape 65 = .ok (.istore 4, 2) := by decide +kernel
theorem dX8_tape_67 : decode cX8_tape 67 = .ok (.iload 4, 2) := by decide +kernel
theorem dX8_tape_69 : decode cX8_tape 69 = .ok (.bipush 60, 2) := by decide +kernel
theorem dX8_tape_71 : decode cX8_tape 71 = .ok (.if_icmp .ge 22, 3) := by decide +kernel
theorem dX8_tape_74 : decode cX8_tape 74 = .ok (.aload_n 0, 1) := by decide +kernel
theorem dX8_tape_75 : decode cX8_tape 75 = .ok (.getfield 69, 3) := by decide +kernel
theorem dX8_tape_78 : decode cX8_tape 78 = .ok (.bipush 60, 2) := by decide +kernel
theorem dX8_tape_80 : decode cX8_tape 80 = .ok (.iload_n 1, 1) := by decide +kernel
theorem dX8_tape_81 : decode cX8_tape 81 = .ok (.imul, 1) := by decide +kernel
theorem dX8_tape_82 : decode cX8_tape 82 = .ok (.iload 4, 2) := by decide +kernel
theorem dX8_tape_84 : decode cX8_tape 84 = .ok (.iadd, 1) := by decide +kernel
theorem dX8_tape_85 : decode cX8_tape 85 = .ok (.lconst 0, 1) := by decide +kernel
theorem dX8_tape_86 : decode cX8_tape 86 = .ok (.lastore, 1) := by decide +kernel
theorem dX8_tape_87 : decode cX8_tape 87 = .ok (.iinc 4 1, 3) := by decide +kernel
theorem dX8_tape_90 : decode cX8_tape 90 = .ok (.goto (-23), 3) := by decide +kernel
theorem dX8_tape_93 : decode cX8_tape 93 = .ok (.iconst 1, 1) := by decide +kernel
theorem dX8_tape_94 : decode cX8_tape 94 = .ok (.ireturn, 1) := by decide +kernel
theorem sd868_0 (F : zFx p l R s m args meth c D cid kv N0 xs Ls RX8 cX8_tape 5 n0 z0 nF zE d) (IH : zAllM l D cid kv N0 xs Ls d) (hQ : ∀ v h, Qq v h → v = r0 ∧ h = hF) (hn : nF = zN hF) (hz : zE = zZ hF) (hlocks : meth.locks = false) (hr : meth.sig.returnType = (some .int)) : zSoL p l e R s m args below meth c D cid kv N0 xs Ls 5 (MQ below (zQc D cid kv N0 xs Ls ρ0 r0 hF) args s (nF - n0) (zE - z0) (zA N0)) ρ0 n0 z0 nF zE Qq (zCall d) zt868_0 := zc_so (si_iload_n F dX8_tape_0 rfl)
  (zc_so (si_cS  F (IH 867 mm867) mp867 (by decide) tb_1054 mi867 mn867 mc867 dX8_tape_1)
  (zc_so (si_ifne F dX8_tape_4 rfl)
  (zc_so (si_iconst F dX8_tape_7 rfl)
  (zc_so (si_rI F hQ hn hz hlocks hr (fun _ _ => rfl) dX8_tape_8)
  (zc_so (si_iload_n F dX8_tape_9 rfl)
  (zc_so (si_iconst F dX8_tape_10 rfl)
  (zc_so (si_iconst F dX8_tape_11 rfl)
  (zc_so (si_cS  F (IH 802 mm802) mp802 (by decide) tb_808 mi802 mn802 mc802 dX8_tape_12)
  (zc_so (si_ifeq F dX8_tape_15 rfl)
  (zc_so (si_iload_n F dX8_tape_18 rfl)
  (zc_so (si_iflt F dX8_tape_19 rfl)
  (zc_so (si_iload_n F dX8_tape_22 rfl)
  (zc_so (si_bipush F dX8_tape_23 rfl)
  (zc_so (si_icle F dX8_tape_25 rfl)
  (zc_so (si_bipush F dX8_tape_28 rfl)
  (zc_so (si_rI F hQ hn hz hlocks hr (fun _ _ => rfl) dX8_tape_30)
  (zc_so (si_iload_n F dX8_tape_31 rfl)
  (zc_so (si_iflt F dX8_tape_32 rfl)
  (zc_so (si_iload_n F dX8_tape_35 rfl)
  (zc_so (si_ifge F dX8_tape_36 rfl)
  (zc_so (si_bipush F dX8_tape_39 rfl)
  (zc_so (si_rI F hQ hn hz hlocks hr (fun _ _ => rfl) dX8_tape_41)
  (zc_so (si_aload_n F dX8_tape_42 rfl)
  (zc_so (si_getR (k := 25) F rfl inT8 (by decide) (by decide) rfl rfl tb_729 dX8_tape_43)
  (zc_so (si_iload_n F dX8_tape_46 rfl)
  (zc_so (si_iload_n F dX8_tape_47 rfl)
  (zc_so (si_iastore F dX8_tape_48)
  (zc_so (si_aload_n F dX8_tape_49 rfl)
  (zc_so (si_getR (k := 26) F rfl inT8 (by decide) (by decide) rfl rfl tb_730 dX8_tape_50)
  (zc_so (si_iload_n F dX8_tape_53 rfl)
  (zc_so (si_iload_n F dX8_tape_54 rfl)
  (zc_so (si_ifge F dX8_tape_55 rfl)
  (zc_so (si_iconst F dX8_tape_58 rfl)
  (zc_so (si_goto F dX8_tape_59 rfl)
  (zc_so (si_iload_n F dX8_tape_62 rfl)
  (zc_so (si_iastore F dX8_tape_63)
  (zc_nil)))))))))))))))))))))))))))))))))))))
theorem sd868_1 (F : zFx p l R s m args meth c D cid kv N0 xs Ls RX8 cX8_tape 5 n0 z0 nF zE d) (IH : zAllM l D cid kv N0 xs Ls d) (hQ : ∀ v h, Qq v h → v = r0 ∧ h = hF) (hn : nF = zN hF) (hz : zE = zZ hF) (hlocks : meth.locks = false) (hr : meth.sig.returnType = (some .int)) : zSoL p l e R s m args below meth c D cid kv N0 xs Ls 5 (MQ below (zQc D cid kv N0 xs Ls ρ0 r0 hF) args s (nF - n0) (zE - z0) (zA N0)) ρ0 n0 z0 nF zE Qq (zCall d) zt868_1 := zc_so (si_iconst F dX8_tape_64 rfl)
  (zc_so (si_istore F dX8_tape_65)
  (zc_so (si_iload F dX8_tape_67)
  (zc_so (si_bipush F dX8_tape_69 rfl)
  (zc_so (si_icge F dX8_tape_71 rfl)
  (zc_so (si_aload_n F dX8_tape_74 rfl)
  (zc_so (si_getR (k := 27) F rfl inT8 (by decide) (by decide) rfl rfl tb_731 dX8_tape_75)
  (zc_so (si_bipush F dX8_tape_78 rfl)
  (zc_so (si_iload_n F dX8_tape_80 rfl)
  (zc_so (si_imul F dX8_tape_81)
  (zc_so (si_iload F dX8_tape_82)
  (zc_so (si_iadd F dX8_tape_84)
  (zc_so (si_lconst F dX8_tape_85 rfl)
  (zc_so (si_lastore F dX8_tape_86)
  (zc_so (si_iinc F dX8_tape_87 rfl)
  (zc_so (si_goto F dX8_tape_90 rfl)
  (zc_so (si_iconst F dX8_tape_93 rfl)
  (zc_so (si_rI F hQ hn hz hlocks hr (fun _ _ => rfl) dX8_tape_94)
  (zc_nil))))))))))))))))))
theorem sd868 (F : zFx p l R s m args meth c D cid kv N0 xs Ls RX8 cX8_tape 5 n0 z0 nF zE d) (IH : zAllM l D cid kv N0 xs Ls d) (hQ : ∀ v h, Qq v h → v = r0 ∧ h = hF) (hn : nF = zN hF) (hz : zE = zZ hF) (hlocks : meth.locks = false) (hr : meth.sig.returnType = (some .int)) (pc : Nat) : zSo p l e R s m args below meth c D cid kv N0 xs Ls 5 (MQ below (zQc D cid kv N0 xs Ls ρ0 r0 hF) args s (nF - n0) (zE - z0) (zA N0)) ρ0 n0 z0 nF zE Qq (zCall d) pc (zTab 868 pc) := zc_tab [zt868_0, zt868_1] (zc_cons (sd868_0 F IH hQ hn hz hlocks hr) (zc_cons (sd868_1 F IH hQ hn hz hlocks hr) zc_end))
theorem dX8_item_0 : decode cX8_item 0 = .ok (.iload_n 1, 1) := by decide +kernel
theorem dX8_item_1 : decode cX8_item 1 = .ok (.invokestatic 244, 3) := by decide +kernel
theorem dX8_item_4 : decode cX8_item 4 = .ok (.ifCond .ne 5, 3) := by decide +kernel
theorem dX8_item_7 : decode cX8_item 7 = .ok (.iconst (-1), 1) := by decide +kernel
theorem dX8_item_8 : decode cX8_item 8 = .ok (.ireturn, 1) := by decide +kernel
theorem dX8_item_9 : decode cX8_item 9 = .ok (.aload_n 0, 1) := by decide +kernel
theorem dX8_item_10 : decode cX8_item 10 = .ok (.getfield 63, 3) := by decide +kernel
theorem dX8_item_13 : decode cX8_item 13 = .ok (.iload_n 1, 1) := by decide +kernel
theorem dX8_item_14 : decode cX8_item 14 = .ok (.iaload, 1) := by decide +kernel
theorem dX8_item_15 : decode cX8_item 15 = .ok (.ifCond .ge 6, 3) := by decide +kernel
theorem dX8_item_18 : decode cX8_item 18 = .ok (.bipush (-11), 2) := by decide +kernel
theorem dX8_item_20 : decode cX8_item 20 = .ok (.ireturn, 1) := by decide +kernel
theorem dX8_item_21 : decode cX8_item 21 = .ok (.iload_n 2, 1) := by decide +kernel
theorem dX8_item_22 : decode cX8_item 22 = .ok (.iconst 0, 1) := by decide +kernel
theorem dX8_item_23 : decode cX8_item 23 = .ok (.aload_n 0, 1) := by decide +kernel
theorem dX8_item_24 : decode cX8_item 24 = .ok (.getfield 66, 3) := by decide +kernel
theorem dX8_item_27 : decode cX8_item 27 = .ok (.iload_n 1, 1) := by decide +kernel
theorem dX8_item_28 : decode cX8_item 28 = .ok (.iaload, 1) := by decide +kernel
theorem dX8_item_29 : decode cX8_item 29 = .ok (.iconst 1, 1) := by decide +kernel
theorem dX8_item_30 : decode cX8_item 30 = .ok (.isub, 1) := by decide +kernel
theorem dX8_item_31 : decode cX8_item 31 = .ok (.invokestatic 84, 3) := by decide +kernel
theorem dX8_item_34 : decode cX8_item 34 = .ok (.ifCond .ne 6, 3) := by decide +kernel
theorem dX8_item_37 : decode cX8_item 37 = .ok (.bipush (-13), 2) := by decide +kernel
theorem dX8_item_39 : decode cX8_item 39 = .ok (.ireturn, 1) := by decide +kernel
theorem dX8_item_40 : decode cX8_item 40 = .ok (.aload_n 0, 1) := by decide +kernel
theorem dX8_item_41 : decode cX8_item 41 = .ok (.getfield 63, 3) := by decide +kernel
theorem dX8_item_44 : decode cX8_item 44 = .ok (.iload_n 1, 1) := by decide +kernel
theorem dX8_item_45 : decode cX8_item 45 = .ok (.iaload, 1) := by decide +kernel
theorem dX8_item_46 : decode cX8_item 46 = .ok (.istore 5, 2) := by decide +kernel
theorem dX8_item_48 : decode cX8_item 48 = .ok (.aload_n 0, 1) := by decide +kernel
theorem dX8_item_49 : decode cX8_item 49 = .ok (.getfield 69, 3) := by decide +kernel
theorem dX8_item_52 : decode cX8_item 52 = .ok (.bipush 60, 2) := by decide +kernel
theorem dX8_item_54 : decode cX8_item 54 = .ok (.iload_n 1, 1) := by decide +kernel
theorem dX8_item_55 : decode cX8_item 55 = .ok (.imul, 1) := by decide +kernel
theorem dX8_item_56 : decode cX8_item 56 = .ok (.iload_n 2, 1) := by decide +kernel
theorem dX8_item_57 : decode cX8_item 57 = .ok (.iadd, 1) := by decide +kernel
theorem dX8_item_58 : decode cX8_item 58 = .ok (.iload 5, 2) := by decide +kernel
theorem dX8_item_60 : decode cX8_item 60 = .ok (.ifCond .ne 10, 3) := by decide +kernel
theorem dX8_item_63 : decode cX8_item 63 = .ok (.lload_n 3, 1) := by decide +kernel
theorem dX8_item_64 : decode cX8_item 64 = .ok (.l2i, 1) := by decide +kernel
theorem dX8_item_65 : decode cX8_item 65 = .ok (.i2b, 1) := by decide +kernel
theorem dX8_item_66 : decode cX8_item 66 = .ok (.i2l, 1) := by decide +kernel
theorem dX8_item_67 : decode cX8_item 67 = .ok (.goto 49, 3) := by decide +kernel
theorem dX8_item_70 : decode cX8_item 70 = .ok (.iload 5, 2) := by decide +kernel
theorem dX8_item_72 : decode cX8_item 72 = .ok (.iconst 1, 1) := by decide +kernel
theorem dX8_item_73 : decode cX8_item 73 = .ok (.if_icmp .ne 10, 3) := by decide +kernel
theorem dX8_item_76 : decode cX8_item 76 = .ok (.lload_n 3, 1) := by decide +kernel
theorem dX8_item_77 : decode cX8_item 77 = .ok (.l2i, 1) := by decide +kernel
theorem dX8_item_78 : decode cX8_item 78 = .ok (.i2s, 1) := by decide +kernel
theorem dX8_item_79 : decode cX8_item 79 = .ok (.i2l, 1) := by decide +kernel
theorem dX8_item_80 : decode cX8_item 80 = .ok (.goto 36, 3) := by decide +kernel
theorem dX8_item_83 : decode cX8_item 83 = .ok (.iload 5, 2) := by decide +kernel
theorem dX8_item_85 : decode cX8_item 85 = .ok (.iconst 2, 1) := by decide +kernel
theorem dX8_item_86 : decode cX8_item 86 = .ok (.if_icmp .ne 9, 3) := by decide +kernel
theorem dX8_item_89 : decode cX8_item 89 = .ok (.lload_n 3, 1) := by decide +kernel
theorem dX8_item_90 : decode cX8_item 90 = .ok (.l2i, 1) := by decide +kernel
theorem dX8_item_91 : decode cX8_item 91 = .ok (.i2l, 1) := by decide +kernel
theorem dX8_item_92 : decode cX8_item 92 = .ok (.goto 24, 3) := by decide +kernel
theorem dX8_item_95 : decode cX8_item 95 = .ok (.iload 5, 2) := by decide +kernel
theorem dX8_item_97 : decode cX8_item 97 = .ok (.iconst 3, 1) := by decide +kernel
theorem dX8_item_98 : decode cX8_item 98 = .ok (.if_icmp .ne 7, 3) := by decide +kernel
theorem dX8_item_101 : decode cX8_item 101 = .ok (.lload_n 3, 1) := by decide +kernel
theorem dX8_item_102 : decode cX8_item 102 = .ok (.goto 14, 3) := by decide +kernel
theorem dX8_item_105 : decode cX8_item 105 = .ok (.lload_n 3, 1) := by decide +kernel
theorem dX8_item_106 : decode cX8_item 106 = .ok (.lconst 0, 1) := by decide +kernel
theorem dX8_item_107 : decode cX8_item 107 = .ok (.lcmp, 1) := by decide +kernel
theorem dX8_item_108 : decode cX8_item 108 = .ok (.ifCond .eq 7, 3) := by decide +kernel
theorem dX8_item_111 : decode cX8_item 111 = .ok (.lconst 1, 1) := by decide +kernel
theorem dX8_item_112 : decode cX8_item 112 = .ok (.goto 4, 3) := by decide +kernel
theorem dX8_item_115 : decode cX8_item 115 = .ok (.lconst 0, 1) := by decide +kernel
theorem dX8_item_116 : decode cX8_item 116 = .ok (.lastore, 1) := by decide +kernel
theorem dX8_item_117 : decode cX8_item 117 = .ok (.iconst 1, 1) := by decide +kernel
theorem dX8_item_118 : decode cX8_item 118 = .ok (.ireturn, 1) := by decide +kernel
theorem sd869_0 (F : zFx p l R s m args meth c D cid kv N0 xs Ls RX8 cX8_item 6 n0 z0 nF zE d) (IH : zAllM l D cid kv N0 xs Ls d) (hQ : ∀ v h, Qq v h → v = r0 ∧ h = hF) (hn : nF = zN hF) (hz : zE = zZ hF) (hlocks : meth.locks = false) (hr : meth.sig.returnType = (some .int)) : zSoL p l e R s m args below meth c D cid kv N0 xs Ls 6 (MQ below (zQc D cid kv N0 xs Ls ρ0 r0 hF) args s (nF - n0) (zE - z0) (zA N0)) ρ0 n0 z0 nF zE Qq (zCall d) zt869_0 := zc_so (si_iload_n F dX8_item_0 rfl)
  (zc_so (si_cS  F (IH 867 mm867) mp867 (by decide) tb_1054 mi867 mn867 mc867 dX8_item_1)
  (zc_so (si_ifne F dX8_item_4 rfl)
  (zc_so (si_iconst F dX8_item_7 rfl)
  (zc_so (si_rI F hQ hn hz hlocks hr (fun _ _ => rfl) dX8_item_8)
  (zc_so (si_aload_n F dX8_item_9 rfl)
  (zc_so (si_getR (k := 25) F rfl inT8 (by decide) (by decide) rfl rfl tb_729 dX8_item_10)
  (zc_so (si_iload_n F dX8_item_13 rfl)
  (zc_so (si_iaload F dX8_item_14)
  (zc_so (si_ifge F dX8_item_15 rfl)
  (zc_so (si_bipush F dX8_item_18 rfl)
  (zc_so (si_rI F hQ hn hz hlocks hr (fun _ _ => rfl) dX8_item_20)
  (zc_so (si_iload_n F dX8_item_21 rfl)
  (zc_so (si_iconst F dX8_item_22 rfl)
  (zc_so (si_aload_n F dX8_item_23 rfl)
  (zc_so (si_getR (k := 26) F rfl inT8 (by decide) (by decide) rfl rfl tb_730 dX8_item_24)
  (zc_so (si_iload_n F dX8_item_27 rfl)
  (zc_so (si_iaload F dX8_item_28)
  (zc_so (si_iconst F dX8_item_29 rfl)
  (zc_so (si_isub F dX8_item_30)
  (zc_so (si_cS  F (IH 802 mm802) mp802 (by decide) tb_808 mi802 mn802 mc802 dX8_item_31)
  (zc_so (si_ifne F dX8_item_34 rfl)
  (zc_so (si_bipush F dX8_item_37 rfl)
  (zc_so (si_rI F hQ hn hz hlocks hr (fun _ _ => rfl) dX8_item_39)
  (zc_so (si_aload_n F dX8_item_40 rfl)
  (zc_so (si_getR (k := 25) F rfl inT8 (by decide) (by decide) rfl rfl tb_729 dX8_item_41)
  (zc_so (si_iload_n F dX8_item_44 rfl)
  (zc_so (si_iaload F dX8_item_45)
  (zc_so (si_istore F dX8_item_46)
  (zc_so (si_aload_n F dX8_item_48 rfl)
  (zc_so (si_getR (k := 27) F rfl inT8 (by decide) (by decide) rfl rfl tb_731 dX8_item_49)
  (zc_so (si_bipush F dX8_item_52 rfl)
  (zc_so (si_iload_n F dX8_item_54 rfl)
  (zc_so (si_imul F dX8_item_55)
  (zc_so (si_iload_n F dX8_item_56 rfl)
  (zc_so (si_iadd F dX8_item_57)
  (zc_so (si_iload F dX8_item_58)
  (zc_so (si_ifne F dX8_item_60 rfl)
  (zc_so (si_lload_n F dX8_item_63 rfl)
  (zc_nil)))))))))))))))))))))))))))))))))))))))
theorem sd869_1 (F : zFx p l R s m args meth c D cid kv N0 xs Ls RX8 cX8_item 6 n0 z0 nF zE d) (IH : zAllM l D cid kv N0 xs Ls d) (hQ : ∀ v h, Qq v h → v = r0 ∧ h = hF) (hn : nF = zN hF) (hz : zE = zZ hF) (hlocks : meth.locks = false) (hr : meth.sig.returnType = (some .int)) : zSoL p l e R s m args below meth c D cid kv N0 xs Ls 6 (MQ below (zQc D cid kv N0 xs Ls ρ0 r0 hF) args s (nF - n0) (zE - z0) (zA N0)) ρ0 n0 z0 nF zE Qq (zCall d) zt869_1 := zc_so (si_l2i F dX8_item_64)
  (zc_so (si_i2b F dX8_item_65)
  (zc_so (si_i2l F dX8_item_66)
  (zc_so (si_goto F dX8_item_67 rfl)
  (zc_so (si_iload F dX8_item_70)
  (zc_so (si_iconst F dX8_item_72 rfl)
  (zc_so (si_icne F dX8_item_73 rfl)
  (zc_so (si_lload_n F dX8_item_76 rfl)
  (zc_so (si_l2i F dX8_item_77)
  (zc_so (si_i2s F dX8_item_78)
  (zc_so (si_i2l F dX8_item_79)
  (zc_so (si_goto F dX8_item_80 rfl)
  (zc_so (si_iload F dX8_item_83)
  (zc_so (si_iconst F dX8_item_85 rfl)
  (zc_so (si_icne F dX8_item_86 rfl)
  (zc_so (si_lload_n F dX8_item_89 rfl)
  (zc_so (si_l2i F dX8_item_90)
  (zc_so (si_i2l F dX8_item_91)
  (zc_so (si_goto F dX8_item_92 rfl)
  (zc_so (si_iload F dX8_item_95)
  (zc_so (si_iconst F dX8_item_97 rfl)
  (zc_so (si_icne F dX8_item_98 rfl)
  (zc_so (si_lload_n F dX8_item_101 rfl)
  (zc_so (si_goto F dX8_item_102 rfl)
  (zc_so (si_lload_n F dX8_item_105 rfl)
  (zc_so (si_lconst F dX8_item_106 rfl)
  (zc_so (si_lcmp F dX8_item_107)
  (zc_so (si_ifeq F dX8_item_108 rfl)
  (zc_so (si_lconst F dX8_item_111 rfl)
  (zc_so (si_goto F dX8_item_112 rfl)
  (zc_so (si_lconst F dX8_item_115 rfl)
  (zc_so (si_lastore F dX8_item_116)
  (zc_so (si_iconst F dX8_item_117 rfl)
  (zc_so (si_rI F hQ hn hz hlocks hr (fun _ _ => rfl) dX8_item_118)
  (zc_nil))))))))))))))))))))))))))))))))))
theorem sd869 (F : zFx p l R s m args meth c D cid kv N0 xs Ls RX8 cX8_item 6 n0 z0 nF zE d) (IH : zAllM l D cid kv N0 xs Ls d) (hQ : ∀ v h, Qq v h → v = r0 ∧ h = hF) (hn : nF = zN hF) (hz : zE = zZ hF) (hlocks : meth.locks = false) (hr : meth.sig.returnType = (some .int)) (pc : Nat) : zSo p l e R s m args below meth c D cid kv N0 xs Ls 6 (MQ below (zQc D cid kv N0 xs Ls ρ0 r0 hF) args s (nF - n0) (zE - z0) (zA N0)) ρ0 n0 z0 nF zE Qq (zCall d) pc (zTab 869 pc) := zc_tab [zt869_0, zt869_1] (zc_cons (sd869_0 F IH hQ hn hz hlocks hr) (zc_cons (sd869_1 F IH hQ hn hz hlocks hr) zc_end))
theorem dX8_read_0 : decode cX8_read 0 = .ok (.iload_n 1, 1) := by decide +kernel
theorem dX8_read_1 : decode cX8_read 1 = .ok (.invokestatic 244, 3) := by decide +kernel
theorem dX8_read_4 : decode cX8_read 4 = .ok (.ifCond .eq 33, 3) := by decide +kernel
theorem dX8_read_7 : decode cX8_read 7 = .ok (.iload_n 2, 1) := by decide +kernel
theorem dX8_read_8 : decode cX8_read 8 = .ok (.iconst 0, 1) := by decide +kernel
theorem dX8_read_9 : decode cX8_read 9 = .ok (.aload_n 0, 1) := by decide +kernel
theorem dX8_read_10 : decode cX8_read 10 = .ok (.getfield 66, 3) := by decide +kernel
theorem dX8_read_13 : decode cX8_read 13 = .ok (.iload_n 1, 1) := by decide +kernel
theorem dX8_read_14 : decode cX8_read 14 = .ok (.iaload, 1) := by decide +kernel
theorem dX8_read_15 : decode cX8_read 15 = .ok (.iconst 1, 1) := by decide +kernel
theorem dX8_read_16 : decode cX8_read 16 = .ok (.isub, 1) := by decide +kernel
theorem dX8_read_17 : decode cX8_read 17 = .ok (.invokestatic 84, 3) := by decide +kernel
theorem dX8_read_20 : decode cX8_read 20 = .ok (.ifCond .eq 17, 3) := by decide +kernel
theorem dX8_read_23 : decode cX8_read 23 = .ok (.aload_n 0, 1) := by decide +kernel
theorem dX8_read_24 : decode cX8_read 24 = .ok (.getfield 69, 3) := by decide +kernel
theorem dX8_read_27 : decode cX8_read 27 = .ok (.bipush 60, 2) := by decide +kernel
theorem dX8_read_29 : decode cX8_read 29 = .ok (.iload_n 1, 1) := by decide +kernel
theorem dX8_read_30 : decode cX8_read 30 = .ok (.imul, 1) := by decide +kernel
theorem dX8_read_31 : decode cX8_read 31 = .ok (.iload_n 2, 1) := by decide +kernel
theorem dX8_read_32 : decode cX8_read 32 = .ok (.iadd, 1) := by decide +kernel
theorem dX8_read_33 : decode cX8_read 33 = .ok (.laload, 1) := by decide +kernel
theorem dX8_read_34 : decode cX8_read 34 = .ok (.goto 6, 3) := by decide +kernel
theorem dX8_read_37 : decode cX8_read 37 = .ok (.ldc2_w 220, 3) := by decide +kernel
theorem dX8_read_40 : decode cX8_read 40 = .ok (.lreturn, 1) := by decide +kernel
theorem sd870_0 (F : zFx p l R s m args meth c D cid kv N0 xs Ls RX8 cX8_read 3 n0 z0 nF zE d) (IH : zAllM l D cid kv N0 xs Ls d) (hQ : ∀ v h, Qq v h → v = r0 ∧ h = hF) (hn : nF = zN hF) (hz : zE = zZ hF) (hlocks : meth.locks = false) (hr : meth.sig.returnType = (some .long)) : zSoL p l e R s m args below meth c D cid kv N0 xs Ls 3 (MQ below (zQc D cid kv N0 xs Ls ρ0 r0 hF) args s (nF - n0) (zE - z0) (zA N0)) ρ0 n0 z0 nF zE Qq (zCall d) zt870_0 := zc_so (si_iload_n F dX8_read_0 rfl)
  (zc_so (si_cS  F (IH 867 mm867) mp867 (by decide) tb_1054 mi867 mn867 mc867 dX8_read_1)
  (zc_so (si_ifeq F dX8_read_4 rfl)
  (zc_so (si_iload_n F dX8_read_7 rfl)
  (zc_so (si_iconst F dX8_read_8 rfl)
  (zc_so (si_aload_n F dX8_read_9 rfl)
  (zc_so (si_getR (k := 26) F rfl inT8 (by decide) (by decide) rfl rfl tb_730 dX8_read_10)
  (zc_so (si_iload_n F dX8_read_13 rfl)
  (zc_so (si_iaload F dX8_read_14)
  (zc_so (si_iconst F dX8_read_15 rfl)
  (zc_so (si_isub F dX8_read_16)
  (zc_so (si_cS  F (IH 802 mm802) mp802 (by decide) tb_808 mi802 mn802 mc802 dX8_read_17)
  (zc_so (si_ifeq F dX8_read_20 rfl)
  (zc_so (si_aload_n F dX8_read_23 rfl)
  (zc_so (si_getR (k := 27) F rfl inT8 (by decide) (by decide) rfl rfl tb_731 dX8_read_24)
  (zc_so (si_bipush F dX8_read_27 rfl)
  (zc_so (si_iload_n F dX8_read_29 rfl)
  (zc_so (si_imul F dX8_read_30)
  (zc_so (si_iload_n F dX8_read_31 rfl)
  (zc_so (si_iadd F dX8_read_32)
  (zc_so (si_laload F dX8_read_33)
  (zc_so (si_goto F dX8_read_34 rfl)
  (zc_so (si_ldc2_w F dX8_read_37 tb_993)
  (zc_so (si_rJ F hQ hn hz hlocks hr dX8_read_40)
  (zc_nil))))))))))))))))))))))))
theorem sd870 (F : zFx p l R s m args meth c D cid kv N0 xs Ls RX8 cX8_read 3 n0 z0 nF zE d) (IH : zAllM l D cid kv N0 xs Ls d) (hQ : ∀ v h, Qq v h → v = r0 ∧ h = hF) (hn : nF = zN hF) (hz : zE = zZ hF) (hlocks : meth.locks = false) (hr : meth.sig.returnType = (some .long)) (pc : Nat) : zSo p l e R s m args below meth c D cid kv N0 xs Ls 3 (MQ below (zQc D cid kv N0 xs Ls ρ0 r0 hF) args s (nF - n0) (zE - z0) (zA N0)) ρ0 n0 z0 nF zE Qq (zCall d) pc (zTab 870 pc) := zc_tab [zt870_0] (zc_cons (sd870_0 F IH hQ hn hz hlocks hr) zc_end)
theorem dX8_shift_0 : decode cX8_shift 0 = .ok (.iload_n 1, 1) := by decide +kernel
theorem dX8_shift_1 : decode cX8_shift 1 = .ok (.invokestatic 244, 3) := by decide +kernel
theorem dX8_shift_4 : decode cX8_shift 4 = .ok (.ifCond .eq 10, 3) := by decide +kernel
theorem dX8_shift_7 : decode cX8_shift 7 = .ok (.iload_n 3, 1) := by decide +kernel
theorem dX8_shift_8 : decode cX8_shift 8 = .ok (.invokestatic 244, 3) := by decide +kernel
theorem dX8_shift_11 : decode cX8_shift 11 = .ok (.ifCond .ne 5, 3) := by decide +kernel
theorem dX8_shift_14 : decode cX8_shift 14 = .ok (.iconst (-1), 1) := by decide +kernel
theorem dX8_shift_15 : decode cX8_shift 15 = .ok (.ireturn, 1) := by decide +kernel
theorem dX8_shift_16 : decode cX8_shift 16 = .ok (.aload_n 0, 1) := by decide +kernel
theorem dX8_shift_17 : decode cX8_shift 17 = .ok (.getfield 63, 3) := by decide +kernel
theorem dX8_shift_20 : decode cX8_shift 20 = .ok (.iload_n 1, 1) := by decide +kernel
theorem dX8_shift_21 : decode cX8_shift 21 = .ok (.iaload, 1) := by decide +kernel
theorem dX8_shift_22 : decode cX8_shift 22 = .ok (.ifCond .lt 12, 3) := by decide +kernel
theorem dX8_shift_25 : decode cX8_shift 25 = .ok (.aload_n 0, 1) := by decide +kernel
theorem dX8_shift_26 : decode cX8_shift 26 = .ok (.getfield 63, 3) := by decide +kernel
theorem dX8_shift_29 : decode cX8_shift 29 = .ok (.iload_n 3, 1) := by decide +kernel
theorem dX8_shift_30 : decode cX8_shift 30 = .ok (.iaload, 1) := by decide +kernel
theorem dX8_shift_31 : decode cX8_shift 31 = .ok (.ifCond .ge 6, 3) := by decide +kernel
theorem dX8_shift_34 : decode cX8_shift 34 = .ok (.bipush (-11), 2) := by decide +kernel
theorem dX8_shift_36 : decode cX8_shift 36 = .ok (.ireturn, 1) := by decide +kernel
theorem dX8_shift_37 : decode cX8_shift 37 = .ok (.aload_n 0, 1) := by decide +kernel
theorem dX8_shift_38 : decode cX8_shift 38 = .ok (.getfield 63, 3) := by decide +kernel
theorem dX8_shift_41 : decode cX8_shift 41 = .ok (.iload_n 1, 1) := by decide +kernel
theorem dX8_shift_42 : decode cX8_shift 42 = .ok (.iaload, 1) := by decide +kernel
theorem dX8_shift_43 : decode cX8_shift 43 = .ok (.aload_n 0, 1) := by decide +kernel
theorem dX8_shift_44 : decode cX8_shift 44 = .ok (.getfield 63, 3) := by decide +kernel
theorem dX8_shift_47 : decode cX8_shift 47 = .ok (.iload_n 3, 1) := by decide +kernel
theorem dX8_shift_48 : decode cX8_shift 48 = .ok (.iaload, 1) := by decide +kernel
theorem dX8_shift_49 : decode cX8_shift 49 = .ok (.if_icmp .eq 6, 3) := by decide +kernel
theorem dX8_shift_52 : decode cX8_shift 52 = .ok (.bipush (-12), 2) := by decide +kernel
theorem dX8_shift_54 : decode cX8_shift 54 = .ok (.ireturn, 1) := by decide +kernel
theorem dX8_shift_55 : decode cX8_shift 55 = .ok (.iload 5, 2) := by decide +kernel
theorem dX8_shift_57 : decode cX8_shift 57 = .ok (.ifCond .lt 39, 3) := by decide +kernel
theorem dX8_shift_60 : decode cX8_shift 60 = .ok (.iload_n 2, 1) := by decide +kernel
theorem dX8_shift_61 : decode cX8_shift 61 = .ok (.ifCond .lt 35, 3) := by decide +kernel
theorem dX8_shift_64 : decode cX8_shift 64 = .ok (.iload 4, 2) := by decide +kernel
theorem dX8_shift_66 : decode cX8_shift 66 = .ok (.ifCond .lt 30, 3) := by decide +kernel
theorem dX8_shift_69 : decode cX8_shift 69 = .ok (.iload 5, 2) := by decide +kernel
theorem dX8_shift_71 : decode cX8_shift 71 = .ok (.aload_n 0, 1) := by decide +kernel
theorem dX8_shift_72 : decode cX8_shift 72 = .ok (.getfield 66, 3) := by decide +kernel
theorem dX8_shift_75 : decode cX8_shift 75 = .ok (.iload_n 1, 1) := by decide +kernel
theorem dX8_shift_76 : decode cX8_shift 76 = .ok (.iaload, 1) := by decide +kernel
theorem dX8_shift_77 : decode cX8_shift 77 = .ok (.iload_n 2, 1) := by decide +kernel
theorem dX8_shift_78 : decode cX8_shift 78 = .ok (.isub, 1) := by decide +kernel
theorem dX8_shift_79 : decode cX8_shift 79 = .ok (.if_icmp .gt 17, 3) := by decide +kernel
theorem dX8_shift_82 : decode cX8_shift 82 = .ok (.iload 5, 2) := by decide +kernel
theorem dX8_shift_84 : decode cX8_shift 84 = .ok (.aload_n 0, 1) := by decide +kernel
theorem dX8_shift_85 : decode cX8_shift 85 = .ok (.getfield 66, 3) := by decide +kernel
theorem dX8_shift_88 : decode cX8_shift 88 = .ok (.iload_n 3, 1) := by decide +kernel
theorem dX8_shift_89 : decode cX8_shift 89 = .ok (.iaload, 1) := by decide +kernel
theorem dX8_shift_90 : decode cX8_shift 90 = .ok (.iload 4, 2) := by decide +kernel
theorem dX8_shift_92 : decode cX8_shift 92 = .ok (.isub, 1) := by decide +kernel
theorem dX8_shift_93 : decode cX8_shift 93 = .ok (.if_icmp .le 6, 3) := by decide +kernel
theorem dX8_shift_96 : decode cX8_shift 96 = .ok (.bipush (-13), 2) := by decide +kernel
theorem dX8_shift_98 : decode cX8_shift 98 = .ok (.ireturn, 1) := by decide +kernel
theorem dX8_shift_99 : decode cX8_shift 99 = .ok (.iconst 0, 1) := by decide +kernel
theorem dX8_shift_100 : decode cX8_shift 100 = .ok (.istore 6, 2) := by decide +kernel
theorem dX8_shift_102 : decode cX8_shift 102 = .ok (.iload 6, 2) := by decide +kernel
theorem dX8_shift_104 : decode cX8_shift 104 = .ok (.iload 5, 2) := by decide +kernel
theorem dX8_shift_106 : decode cX8_shift 106 = .ok (.if_icmp .ge 30, 3) := by decide +kernel
theorem dX8_shift_109 : decode cX8_shift 109 = .ok (.aload_n 0, 1) := by decide +kernel
theorem dX8_shift_110 : decode cX8_shift 110 = .ok (.getfield 73, 3) := by decide +kernel
theorem dX8_shift_113 : decode cX8_shift 113 = .ok (.iload 6, 2) := by decide +kernel
theorem dX8_shift_115 : decode cX8_shift 115 = .ok (.aload_n 0, 1) := by decide +kernel
theorem dX8_shift_116 : decode cX8_shift 116 = .ok (.getfield 69, 3) := by decide +kernel
theorem dX8_shift_119 : decode cX8_shift 119 = .ok (.bipush 60, 2) := by decide +kernel
theorem dX8_shift_121 : decode cX8_shift 121 = .ok (.iload_n 1, 1) := by decide +kernel
theorem dX8_shift_122 : decode cX8_shift 122 = .ok (.imul, 1) := by decide +kernel
theorem dX8_shift_123 : decode cX8_shift 123 = .ok (.iload_n 2, 1) := by decide +kernel
theorem dX8_shift_124 : decode cX8_shift 124 = .ok (.iadd, 1) := by decide +kernel
theorem dX8_shift_125 : decode cX8_shift 125 = .ok (.iload 6, 2) := by decide +kernel
theorem dX8_shift_127 : decode cX8_shift 127 = .ok (.iadd, 1) := by decide +kernel
theorem dX8_shift_128 : decode cX8_shift 128 = .ok (.laload, 1) := by decide +kernel
theorem dX8_shift_129 : decode cX8_shift 129 = .ok (.lastore, 1) := by decide +kernel
theorem dX8_shift_130 : decode cX8_shift 130 = .ok (.iinc 6 1, 3) := by decide +kernel
theorem dX8_shift_133 : decode cX8_shift 133 = .ok (.goto (-31), 3) := by decide +kernel
theorem dX8_shift_136 : decode cX8_shift 136 = .ok (.iconst 0, 1) := by decide +kernel
theorem dX8_shift_137 : decode cX8_shift 137 = .ok (.istore 6, 2) := by decide +kernel
theorem dX8_shift_139 : decode cX8_shift 139 = .ok (.iload 6, 2) := by decide +kernel
theorem dX8_shift_141 : decode cX8_shift 141 = .ok (.iload 5, 2) := by decide +kernel
theorem dX8_shift_143 : decode cX8_shift 143 = .ok (.if_icmp .ge 31, 3) := by decide +kernel
theorem dX8_shift_146 : decode cX8_shift 146 = .ok (.aload_n 0, 1) := by decide +kernel
theorem dX8_shift_147 : decode cX8_shift 147 = .ok (.getfield 69, 3) := by decide +kernel
theorem dX8_shift_150 : decode cX8_shift 150 = .ok (.bipush 60, 2) := by decide +kernel
theorem dX8_shift_152 : decode cX8_shift 152 = .ok (.iload_n 3, 1) := by decide +kernel
theorem dX8_shift_153 : decode cX8_shift 153 = .ok (.imul, 1) := by decide +kernel
theorem dX8_shift_154 : decode cX8_shift 154 = .ok (.iload 4, 2) := by decide +kernel
theorem dX8_shift_156 : decode cX8_shift 156 = .ok (.iadd, 1) := by decide +kernel
theorem dX8_shift_157 : decode cX8_shift 157 = .ok (.iload 6, 2) := by decide +kernel
theorem dX8_shift_159 : decode cX8_shift 159 = .ok (.iadd, 1) := by decide +kernel
theorem dX8_shift_160 : decode cX8_shift 160 = .ok (.aload_n 0, 1) := by decide +kernel
theorem dX8_shift_161 : decode cX8_shift 161 = .ok (.getfield 73, 3) := by decide +kernel
theorem dX8_shift_164 : decode cX8_shift 164 = .ok (.iload 6, 2) := by decide +kernel
theorem dX8_shift_166 : decode cX8_shift 166 = .ok (.laload, 1) := by decide +kernel
theorem dX8_shift_167 : decode cX8_shift 167 = .ok (.lastore, 1) := by decide +kernel
theorem dX8_shift_168 : decode cX8_shift 168 = .ok (.iinc 6 1, 3) := by decide +kernel
theorem dX8_shift_171 : decode cX8_shift 171 = .ok (.goto (-32), 3) := by decide +kernel
theorem dX8_shift_174 : decode cX8_shift 174 = .ok (.iload 5, 2) := by decide +kernel
theorem dX8_shift_176 : decode cX8_shift 176 = .ok (.ireturn, 1) := by decide +kernel
theorem sd871_0 (F : zFx p l R s m args meth c D cid kv N0 xs Ls RX8 cX8_shift 7 n0 z0 nF zE d) (IH : zAllM l D cid kv N0 xs Ls d) (hQ : ∀ v h, Qq v h → v = r0 ∧ h = hF) (hn : nF = zN hF) (hz : zE = zZ hF) (hlocks : meth.locks = false) (hr : meth.sig.returnType = (some .int)) : zSoL p l e R s m args below meth c D cid kv N0 xs Ls 7 (MQ below (zQc D cid kv N0 xs Ls ρ0 r0 hF) args s (nF - n0) (zE - z0) (zA N0)) ρ0 n0 z0 nF zE Qq (zCall d) zt871_0 := zc_so (si_iload_n F dX8_shift_0 rfl)
  (zc_so (si_cS  F (IH 867 mm867) mp867 (by decide) tb_1054 mi867 mn867 mc867 dX8_shift_1)
  (zc_so (si_ifeq F dX8_shift_4 rfl)
  (zc_so (si_iload_n F dX8_shift_7 rfl)
  (zc_so (si_cS  F (IH 867 mm867) mp867 (by decide) tb_1054 mi867 mn867 mc867 dX8_shift_8)
  (zc_so (si_ifne F dX8_shift_11 rfl)
  (zc_so (si_iconst F dX8_shift_14 rfl)
  (zc_so (si_rI F hQ hn hz hlocks hr (fun _ _ => rfl) dX8_shift_15)
  (zc_so (si_aload_n F dX8_shift_16 rfl)
  (zc_so (si_getR (k := 25) F rfl inT8 (by decide) (by decide) rfl rfl tb_729 dX8_shift_17)
  (zc_so (si_iload_n F dX8_shift_20 rfl)
  (zc_so (si_iaload F dX8_shift_21)
  (zc_so (si_iflt F dX8_shift_22 rfl)
  (zc_so (si_aload_n F dX8_shift_25 rfl)
  (zc_so (si_getR (k := 25) F rfl inT8 (by decide) (by decide) rfl rfl tb_729 dX8_shift_26)
  (zc_so (si_iload_n F dX8_shift_29 rfl)
  (zc_so (si_iaload F dX8_shift_30)
  (zc_so (si_ifge F dX8_shift_31 rfl)
  (zc_so (si_bipush F dX8_shift_34 rfl)
  (zc_so (si_rI F hQ hn hz hlocks hr (fun _ _ => rfl) dX8_shift_36)
  (zc_so (si_aload_n F dX8_shift_37 rfl)
  (zc_so (si_getR (k := 25) F rfl inT8 (by decide) (by decide) rfl rfl tb_729 dX8_shift_38)
  (zc_so (si_iload_n F dX8_shift_41 rfl)
  (zc_so (si_iaload F dX8_shift_42)
  (zc_so (si_aload_n F dX8_shift_43 rfl)
  (zc_so (si_getR (k := 25) F rfl inT8 (by decide) (by decide) rfl rfl tb_729 dX8_shift_44)
  (zc_so (si_iload_n F dX8_shift_47 rfl)
  (zc_so (si_iaload F dX8_shift_48)
  (zc_so (si_iceq F dX8_shift_49 rfl)
  (zc_so (si_bipush F dX8_shift_52 rfl)
  (zc_so (si_rI F hQ hn hz hlocks hr (fun _ _ => rfl) dX8_shift_54)
  (zc_so (si_iload F dX8_shift_55)
  (zc_so (si_iflt F dX8_shift_57 rfl)
  (zc_so (si_iload_n F dX8_shift_60 rfl)
  (zc_so (si_iflt F dX8_shift_61 rfl)
  (zc_nil)))))))))))))))))))))))))))))))))))
theorem sd871_1 (F : zFx p l R s m args meth c D cid kv N0 xs Ls RX8 cX8_shift 7 n0 z0 nF zE d) (IH : zAllM l D cid kv N0 xs Ls d) (hQ : ∀ v h, Qq v h → v = r0 ∧ h = hF) (hn : nF = zN hF) (hz : zE = zZ hF) (hlocks : meth.locks = false) (hr : meth.sig.returnType = (some .int)) : zSoL p l e R s m args below meth c D cid kv N0 xs Ls 7 (MQ below (zQc D cid kv N0 xs Ls ρ0 r0 hF) args s (nF - n0) (zE - z0) (zA N0)) ρ0 n0 z0 nF zE Qq (zCall d) zt871_1 := zc_so (si_iload F dX8_shift_64)
  (zc_so (si_iflt F dX8_shift_66 rfl)
  (zc_so (si_iload F dX8_shift_69)
  (zc_so (si_aload_n F dX8_shift_71 rfl)
  (zc_so (si_getR (k := 26) F rfl inT8 (by decide) (by decide) rfl rfl tb_730 dX8_shift_72)
  (zc_so (si_iload_n F dX8_shift_75 rfl)
  (zc_so (si_iaload F dX8_shift_76)
  (zc_so (si_iload_n F dX8_shift_77 rfl)
  (zc_so (si_isub F dX8_shift_78)
  (zc_so (si_icgt F dX8_shift_79 rfl)
  (zc_so (si_iload F dX8_shift_82)
  (zc_so (si_aload_n F dX8_shift_84 rfl)
  (zc_so (si_getR (k := 26) F rfl inT8 (by decide) (by decide) rfl rfl tb_730 dX8_shift_85)
  (zc_so (si_iload_n F dX8_shift_88 rfl)
  (zc_so (si_iaload F dX8_shift_89)
  (zc_so (si_iload F dX8_shift_90)
  (zc_so (si_isub F dX8_shift_92)
  (zc_so (si_icle F dX8_shift_93 rfl)
  (zc_so (si_bipush F dX8_shift_96 rfl)
  (zc_so (si_rI F hQ hn hz hlocks hr (fun _ _ => rfl) dX8_shift_98)
  (zc_so (si_iconst F dX8_shift_99 rfl)
  (zc_so (si_istore F dX8_shift_100)
  (zc_so (si_iload F dX8_shift_102)
  (zc_so (si_iload F dX8_shift_104)
  (zc_so (si_icge F dX8_shift_106 rfl)
  (zc_so (si_aload_n F dX8_shift_109 rfl)
  (zc_so (si_getR (k := 28) F rfl inT8 (by decide) (by decide) rfl rfl tb_732 dX8_shift_110)
  (zc_so (si_iload F dX8_shift_113)
  (zc_so (si_aload_n F dX8_shift_115 rfl)
  (zc_so (si_getR (k := 27) F rfl inT8 (by decide) (by decide) rfl rfl tb_731 dX8_shift_116)
  (zc_so (si_bipush F dX8_shift_119 rfl)
  (zc_so (si_iload_n F dX8_shift_121 rfl)
  (zc_so (si_imul F dX8_shift_122)
  (zc_so (si_iload_n F dX8_shift_123 rfl)
  (zc_so (si_iadd F dX8_shift_124)
  (zc_so (si_iload F dX8_shift_125)
  (zc_so (si_iadd F dX8_shift_127)
  (zc_nil)))))))))))))))))))))))))))))))))))))
theorem sd871_2 (F : zFx p l R s m args meth c D cid kv N0 xs Ls RX8 cX8_shift 7 n0 z0 nF zE d) (IH : zAllM l D cid kv N0 xs Ls d) (hQ : ∀ v h, Qq v h → v = r0 ∧ h = hF) (hn : nF = zN hF) (hz : zE = zZ hF) (hlocks : meth.locks = false) (hr : meth.sig.returnType = (some .int)) : zSoL p l e R s m args below meth c D cid kv N0 xs Ls 7 (MQ below (zQc D cid kv N0 xs Ls ρ0 r0 hF) args s (nF - n0) (zE - z0) (zA N0)) ρ0 n0 z0 nF zE Qq (zCall d) zt871_2 := zc_so (si_laload F dX8_shift_128)
  (zc_so (si_lastore F dX8_shift_129)
  (zc_so (si_iinc F dX8_shift_130 rfl)
  (zc_so (si_goto F dX8_shift_133 rfl)
  (zc_so (si_iconst F dX8_shift_136 rfl)
  (zc_so (si_istore F dX8_shift_137)
  (zc_so (si_iload F dX8_shift_139)
  (zc_so (si_iload F dX8_shift_141)
  (zc_so (si_icge F dX8_shift_143 rfl)
  (zc_so (si_aload_n F dX8_shift_146 rfl)
  (zc_so (si_getR (k := 27) F rfl inT8 (by decide) (by decide) rfl rfl tb_731 dX8_shift_147)
  (zc_so (si_bipush F dX8_shift_150 rfl)
  (zc_so (si_iload_n F dX8_shift_152 rfl)
  (zc_so (si_imul F dX8_shift_153)
  (zc_so (si_iload F dX8_shift_154)
  (zc_so (si_iadd F dX8_shift_156)
  (zc_so (si_iload F dX8_shift_157)
  (zc_so (si_iadd F dX8_shift_159)
  (zc_so (si_aload_n F dX8_shift_160 rfl)
  (zc_so (si_getR (k := 28) F rfl inT8 (by decide) (by decide) rfl rfl tb_732 dX8_shift_161)
  (zc_so (si_iload F dX8_shift_164)
  (zc_so (si_laload F dX8_shift_166)
  (zc_so (si_lastore F dX8_shift_167)
  (zc_so (si_iinc F dX8_shift_168 rfl)
  (zc_so (si_goto F dX8_shift_171 rfl)
  (zc_so (si_iload F dX8_shift_174)
  (zc_so (si_rI F hQ hn hz hlocks hr (fun _ _ => rfl) dX8_shift_176)
  (zc_nil)))))))))))))))))))))))))))
theorem sd871 (F : zFx p l R s m args meth c D cid kv N0 xs Ls RX8 cX8_shift 7 n0 z0 nF zE d) (IH : zAllM l D cid kv N0 xs Ls d) (hQ : ∀ v h, Qq v h → v = r0 ∧ h = hF) (hn : nF = zN hF) (hz : zE = zZ hF) (hlocks : meth.locks = false) (hr : meth.sig.returnType = (some .int)) (pc : Nat) : zSo p l e R s m args below meth c D cid kv N0 xs Ls 7 (MQ below (zQc D cid kv N0 xs Ls ρ0 r0 hF) args s (nF - n0) (zE - z0) (zA N0)) ρ0 n0 z0 nF zE Qq (zCall d) pc (zTab 871 pc) := zc_tab [zt871_0, zt871_1, zt871_2] (zc_cons (sd871_0 F IH hQ hn hz hlocks hr) (zc_cons (sd871_1 F IH hQ hn hz hlocks hr) (zc_cons (sd871_2 F IH hQ hn hz hlocks hr) zc_end)))
theorem dX8_judge_0 : decode cX8_judge 0 = .ok (.iload_n 1, 1) := by decide +kernel
theorem dX8_judge_1 : decode cX8_judge 1 = .ok (.invokestatic 244, 3) := by decide +kernel
theorem dX8_judge_4 : decode cX8_judge 4 = .ok (.ifCond .ne 5, 3) := by decide +kernel
theorem dX8_judge_7 : decode cX8_judge 7 = .ok (.iconst (-1), 1) := by decide +kernel
theorem dX8_judge_8 : decode cX8_judge 8 = .ok (.ireturn, 1) := by decide +kernel
theorem dX8_judge_9 : decode cX8_judge 9 = .ok (.aload_n 0, 1) := by decide +kernel
theorem dX8_judge_10 : decode cX8_judge 10 = .ok (.getfield 63, 3) := by decide +kernel
theorem dX8_judge_13 : decode cX8_judge 13 = .ok (.iload_n 1, 1) := by decide +kernel
theorem dX8_judge_14 : decode cX8_judge 14 = .ok (.iaload, 1) := by decide +kernel
theorem dX8_judge_15 : decode cX8_judge 15 = .ok (.iconst (-1), 1) := by decide +kernel
theorem dX8_judge_16 : decode cX8_judge 16 = .ok (.if_icmp .eq 16, 3) := by decide +kernel
theorem dX8_judge_19 : decode cX8_judge 19 = .ok (.aload_n 0, 1) := by decide +kernel
theorem dX8_judge_20 : decode cX8_judge 20 = .ok (.getfield 63, 3) := by decide +kernel
theorem dX8_judge_23 : decode cX8_judge 23 = .ok (.iload_n 1, 1) := by decide +kernel
theorem dX8_judge_24 : decode cX8_judge 24 = .ok (.iaload, 1) := by decide +kernel
theorem dX8_judge_25 : decode cX8_judge 25 = .ok (.iconst 4, 1) := by decide +kernel
theorem dX8_judge_26 : decode cX8_judge 26 = .ok (.if_icmp .eq 6, 3) := by decide +kernel
theorem dX8_judge_29 : decode cX8_judge 29 = .ok (.bipush (-12), 2) := by decide +kernel
theorem dX8_judge_31 : decode cX8_judge 31 = .ok (.ireturn, 1) := by decide +kernel
theorem dX8_judge_32 : decode cX8_judge 32 = .ok (.iconst 0, 1) := by decide +kernel
theorem dX8_judge_33 : decode cX8_judge 33 = .ok (.istore_n 3, 1) := by decide +kernel
theorem dX8_judge_34 : decode cX8_judge 34 = .ok (.iload_n 3, 1) := by decide +kernel
theorem dX8_judge_35 : decode cX8_judge 35 = .ok (.aload_n 0, 1) := by decide +kernel
theorem dX8_judge_36 : decode cX8_judge 36 = .ok (.getfield 15, 3) := by decide +kernel
theorem dX8_judge_39 : decode cX8_judge 39 = .ok (.bipush 60, 2) := by decide +kernel
theorem dX8_judge_41 : decode cX8_judge 41 = .ok (.iaload, 1) := by decide +kernel
theorem dX8_judge_42 : decode cX8_judge 42 = .ok (.if_icmp .ge 64, 3) := by decide +kernel
theorem dX8_judge_45 : decode cX8_judge 45 = .ok (.iload_n 2, 1) := by decide +kernel
theorem dX8_judge_46 : decode cX8_judge 46 = .ok (.i2l, 1) := by decide +kernel
theorem dX8_judge_47 : decode cX8_judge 47 = .ok (.iload_n 3, 1) := by decide +kernel
theorem dX8_judge_48 : decode cX8_judge 48 = .ok (.i2l, 1) := by decide +kernel
theorem dX8_judge_49 : decode cX8_judge 49 = .ok (.ladd, 1) := by decide +kernel
theorem dX8_judge_50 : decode cX8_judge 50 = .ok (.lstore 4, 2) := by decide +kernel
theorem dX8_judge_52 : decode cX8_judge 52 = .ok (.iload_n 2, 1) := by decide +kernel
theorem dX8_judge_53 : decode cX8_judge 53 = .ok (.ifCond .lt 16, 3) := by decide +kernel
theorem dX8_judge_56 : decode cX8_judge 56 = .ok (.lload 4, 2) := by decide +kernel
theorem dX8_judge_58 : decode cX8_judge 58 = .ok (.aload_n 0, 1) := by decide +kernel
theorem dX8_judge_59 : decode cX8_judge 59 = .ok (.getfield 66, 3) := by decide +kernel
theorem dX8_judge_62 : decode cX8_judge 62 = .ok (.iload_n 1, 1) := by decide +kernel
theorem dX8_judge_63 : decode cX8_judge 63 = .ok (.iaload, 1) := by decide +kernel
theorem dX8_judge_64 : decode cX8_judge 64 = .ok (.i2l, 1) := by decide +kernel
theorem dX8_judge_65 : decode cX8_judge 65 = .ok (.lcmp, 1) := by decide +kernel
theorem dX8_judge_66 : decode cX8_judge 66 = .ok (.ifCond .lt 8, 3) := by decide +kernel
theorem dX8_judge_69 : decode cX8_judge 69 = .ok (.bipush 100, 2) := by decide +kernel
theorem dX8_judge_71 : decode cX8_judge 71 = .ok (.iload_n 3, 1) := by decide +kernel
theorem dX8_judge_72 : decode cX8_judge 72 = .ok (.iadd, 1) := by decide +kernel
theorem dX8_judge_73 : decode cX8_judge 73 = .ok (.ireturn, 1) := by decide +kernel
theorem dX8_judge_74 : decode cX8_judge 74 = .ok (.aload_n 0, 1) := by decide +kernel
theorem dX8_judge_75 : decode cX8_judge 75 = .ok (.getfield 69, 3) := by decide +kernel
theorem dX8_judge_78 : decode cX8_judge 78 = .ok (.bipush 60, 2) := by decide +kernel
theorem dX8_judge_80 : decode cX8_judge 80 = .ok (.iload_n 1, 1) := by decide +kernel
theorem dX8_judge_81 : decode cX8_judge 81 = .ok (.imul, 1) := by decide +kernel
theorem dX8_judge_82 : decode cX8_judge 82 = .ok (.lload 4, 2) := by decide +kernel
theorem dX8_judge_84 : decode cX8_judge 84 = .ok (.l2i, 1) := by decide +kernel
theorem dX8_judge_85 : decode cX8_judge 85 = .ok (.iadd, 1) := by decide +kernel
theorem dX8_judge_86 : decode cX8_judge 86 = .ok (.laload, 1) := by decide +kernel
theorem dX8_judge_87 : decode cX8_judge 87 = .ok (.aload_n 0, 1) := by decide +kernel
theorem dX8_judge_88 : decode cX8_judge 88 = .ok (.iload_n 3, 1) := by decide +kernel
theorem dX8_judge_89 : decode cX8_judge 89 = .ok (.iconst 4, 1) := by decide +kernel
theorem dX8_judge_90 : decode cX8_judge 90 = .ok (.invokevirtual 88, 3) := by decide +kernel
theorem dX8_judge_93 : decode cX8_judge 93 = .ok (.i2l, 1) := by decide +kernel
theorem dX8_judge_94 : decode cX8_judge 94 = .ok (.lcmp, 1) := by decide +kernel
theorem dX8_judge_95 : decode cX8_judge 95 = .ok (.ifCond .eq 5, 3) := by decide +kernel
theorem dX8_judge_98 : decode cX8_judge 98 = .ok (.iload_n 3, 1) := by decide +kernel
theorem dX8_judge_99 : decode cX8_judge 99 = .ok (.ireturn, 1) := by decide +kernel
theorem dX8_judge_100 : decode cX8_judge 100 = .ok (.iinc 3 1, 3) := by decide +kernel
theorem dX8_judge_103 : decode cX8_judge 103 = .ok (.goto (-69), 3) := by decide +kernel
theorem dX8_judge_106 : decode cX8_judge 106 = .ok (.bipush (-5), 2) := by decide +kernel
theorem dX8_judge_108 : decode cX8_judge 108 = .ok (.ireturn, 1) := by decide +kernel
theorem sd872_0 (F : zFx p l R s m args meth c D cid kv N0 xs Ls RX8 cX8_judge 6 n0 z0 nF zE d) (IH : zAllM l D cid kv N0 xs Ls d) (hQ : ∀ v h, Qq v h → v = r0 ∧ h = hF) (hn : nF = zN hF) (hz : zE = zZ hF) (hlocks : meth.locks = false) (hr : meth.sig.returnType = (some .int)) : zSoL p l e R s m args below meth c D cid kv N0 xs Ls 6 (MQ below (zQc D cid kv N0 xs Ls ρ0 r0 hF) args s (nF - n0) (zE - z0) (zA N0)) ρ0 n0 z0 nF zE Qq (zCall d) zt872_0 := zc_so (si_iload_n F dX8_judge_0 rfl)
  (zc_so (si_cS  F (IH 867 mm867) mp867 (by decide) tb_1054 mi867 mn867 mc867 dX8_judge_1)
  (zc_so (si_ifne F dX8_judge_4 rfl)
  (zc_so (si_iconst F dX8_judge_7 rfl)
  (zc_so (si_rI F hQ hn hz hlocks hr (fun _ _ => rfl) dX8_judge_8)
  (zc_so (si_aload_n F dX8_judge_9 rfl)
  (zc_so (si_getR (k := 25) F rfl inT8 (by decide) (by decide) rfl rfl tb_729 dX8_judge_10)
  (zc_so (si_iload_n F dX8_judge_13 rfl)
  (zc_so (si_iaload F dX8_judge_14)
  (zc_so (si_iconst F dX8_judge_15 rfl)
  (zc_so (si_iceq F dX8_judge_16 rfl)
  (zc_so (si_aload_n F dX8_judge_19 rfl)
  (zc_so (si_getR (k := 25) F rfl inT8 (by decide) (by decide) rfl rfl tb_729 dX8_judge_20)
  (zc_so (si_iload_n F dX8_judge_23 rfl)
  (zc_so (si_iaload F dX8_judge_24)
  (zc_so (si_iconst F dX8_judge_25 rfl)
  (zc_so (si_iceq F dX8_judge_26 rfl)
  (zc_so (si_bipush F dX8_judge_29 rfl)
  (zc_so (si_rI F hQ hn hz hlocks hr (fun _ _ => rfl) dX8_judge_31)
  (zc_so (si_iconst F dX8_judge_32 rfl)
  (zc_so (si_istore_n F dX8_judge_33 rfl)
  (zc_so (si_iload_n F dX8_judge_34 rfl)
  (zc_so (si_aload_n F dX8_judge_35 rfl)
  (zc_so (si_getR (k := 0) F rfl inT8 (by decide) (by decide) rfl rfl tb_704 dX8_judge_36)
  (zc_so (si_bipush F dX8_judge_39 rfl)
  (zc_so (si_iaload F dX8_judge_41)
  (zc_so (si_icge F dX8_judge_42 rfl)
  (zc_so (si_iload_n F dX8_judge_45 rfl)
  (zc_so (si_i2l F dX8_judge_46)
  (zc_so (si_iload_n F dX8_judge_47 rfl)
  (zc_so (si_i2l F dX8_judge_48)
  (zc_so (si_ladd F dX8_judge_49)
  (zc_so (si_lstore F dX8_judge_50)
  (zc_so (si_iload_n F dX8_judge_52 rfl)
  (zc_so (si_iflt F dX8_judge_53 rfl)
  (zc_so (si_lload F dX8_judge_56)
  (zc_so (si_aload_n F dX8_judge_58 rfl)
  (zc_so (si_getR (k := 26) F rfl inT8 (by decide) (by decide) rfl rfl tb_730 dX8_judge_59)
  (zc_so (si_iload_n F dX8_judge_62 rfl)
  (zc_so (si_iaload F dX8_judge_63)
  (zc_nil))))))))))))))))))))))))))))))))))))))))
theorem sd872_1 (F : zFx p l R s m args meth c D cid kv N0 xs Ls RX8 cX8_judge 6 n0 z0 nF zE d) (IH : zAllM l D cid kv N0 xs Ls d) (hQ : ∀ v h, Qq v h → v = r0 ∧ h = hF) (hn : nF = zN hF) (hz : zE = zZ hF) (hlocks : meth.locks = false) (hr : meth.sig.returnType = (some .int)) : zSoL p l e R s m args below meth c D cid kv N0 xs Ls 6 (MQ below (zQc D cid kv N0 xs Ls ρ0 r0 hF) args s (nF - n0) (zE - z0) (zA N0)) ρ0 n0 z0 nF zE Qq (zCall d) zt872_1 := zc_so (si_i2l F dX8_judge_64)
  (zc_so (si_lcmp F dX8_judge_65)
  (zc_so (si_iflt F dX8_judge_66 rfl)
  (zc_so (si_bipush F dX8_judge_69 rfl)
  (zc_so (si_iload_n F dX8_judge_71 rfl)
  (zc_so (si_iadd F dX8_judge_72)
  (zc_so (si_rI F hQ hn hz hlocks hr (fun _ _ => rfl) dX8_judge_73)
  (zc_so (si_aload_n F dX8_judge_74 rfl)
  (zc_so (si_getR (k := 27) F rfl inT8 (by decide) (by decide) rfl rfl tb_731 dX8_judge_75)
  (zc_so (si_bipush F dX8_judge_78 rfl)
  (zc_so (si_iload_n F dX8_judge_80 rfl)
  (zc_so (si_imul F dX8_judge_81)
  (zc_so (si_lload F dX8_judge_82)
  (zc_so (si_l2i F dX8_judge_84)
  (zc_so (si_iadd F dX8_judge_85)
  (zc_so (si_laload F dX8_judge_86)
  (zc_so (si_aload_n F dX8_judge_87 rfl)
  (zc_so (si_iload_n F dX8_judge_88 rfl)
  (zc_so (si_iconst F dX8_judge_89 rfl)
  (zc_so (si_cV F (IH 808 mm808) mp808 (by decide) rfl rfl (by decide) tb_819 mi808 ms808 mn808 mc808 dX8_judge_90)
  (zc_so (si_i2l F dX8_judge_93)
  (zc_so (si_lcmp F dX8_judge_94)
  (zc_so (si_ifeq F dX8_judge_95 rfl)
  (zc_so (si_iload_n F dX8_judge_98 rfl)
  (zc_so (si_rI F hQ hn hz hlocks hr (fun _ _ => rfl) dX8_judge_99)
  (zc_so (si_iinc F dX8_judge_100 rfl)
  (zc_so (si_goto F dX8_judge_103 rfl)
  (zc_so (si_bipush F dX8_judge_106 rfl)
  (zc_so (si_rI F hQ hn hz hlocks hr (fun _ _ => rfl) dX8_judge_108)
  (zc_nil)))))))))))))))))))))))))))))
theorem sd872 (F : zFx p l R s m args meth c D cid kv N0 xs Ls RX8 cX8_judge 6 n0 z0 nF zE d) (IH : zAllM l D cid kv N0 xs Ls d) (hQ : ∀ v h, Qq v h → v = r0 ∧ h = hF) (hn : nF = zN hF) (hz : zE = zZ hF) (hlocks : meth.locks = false) (hr : meth.sig.returnType = (some .int)) (pc : Nat) : zSo p l e R s m args below meth c D cid kv N0 xs Ls 6 (MQ below (zQc D cid kv N0 xs Ls ρ0 r0 hF) args s (nF - n0) (zE - z0) (zA N0)) ρ0 n0 z0 nF zE Qq (zCall d) pc (zTab 872 pc) := zc_tab [zt872_0, zt872_1] (zc_cons (sd872_0 F IH hQ hn hz hlocks hr) (zc_cons (sd872_1 F IH hQ hn hz hlocks hr) zc_end))
