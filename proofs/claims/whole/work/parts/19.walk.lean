/-! X13_rounds -/
theorem dX13_rounds_0 : decode cX13_rounds 0 = .ok (.iconst 0, 1) := by decide +kernel
theorem dX13_rounds_1 : decode cX13_rounds 1 = .ok (.istore_n 2, 1) := by decide +kernel
theorem dX13_rounds_2 : decode cX13_rounds 2 = .ok (.aload_n 0, 1) := by decide +kernel
theorem dX13_rounds_3 : decode cX13_rounds 3 = .ok (.getfield 57, 3) := by decide +kernel
theorem dX13_rounds_6 : decode cX13_rounds 6 = .ok (.iconst 0, 1) := by decide +kernel
theorem dX13_rounds_7 : decode cX13_rounds 7 = .ok (.iconst 0, 1) := by decide +kernel
theorem dX13_rounds_8 : decode cX13_rounds 8 = .ok (.iastore, 1) := by decide +kernel
theorem dX13_rounds_9 : decode cX13_rounds 9 = .ok (.aload_n 0, 1) := by decide +kernel
theorem dX13_rounds_10 : decode cX13_rounds 10 = .ok (.getfield 60, 3) := by decide +kernel
theorem dX13_rounds_13 : decode cX13_rounds 13 = .ok (.iconst 0, 1) := by decide +kernel
theorem dX13_rounds_14 : decode cX13_rounds 14 = .ok (.aload_n 0, 1) := by decide +kernel
theorem dX13_rounds_15 : decode cX13_rounds 15 = .ok (.getfield 29, 3) := by decide +kernel
theorem dX13_rounds_18 : decode cX13_rounds 18 = .ok (.bipush 12, 2) := by decide +kernel
theorem dX13_rounds_20 : decode cX13_rounds 20 = .ok (.iload_n 1, 1) := by decide +kernel
theorem dX13_rounds_21 : decode cX13_rounds 21 = .ok (.iadd, 1) := by decide +kernel
theorem dX13_rounds_22 : decode cX13_rounds 22 = .ok (.iaload, 1) := by decide +kernel
theorem dX13_rounds_23 : decode cX13_rounds 23 = .ok (.iastore, 1) := by decide +kernel
theorem dX13_rounds_24 : decode cX13_rounds 24 = .ok (.aload_n 0, 1) := by decide +kernel
theorem dX13_rounds_25 : decode cX13_rounds 25 = .ok (.getfield 63, 3) := by decide +kernel
theorem dX13_rounds_28 : decode cX13_rounds 28 = .ok (.iconst 0, 1) := by decide +kernel
theorem dX13_rounds_29 : decode cX13_rounds 29 = .ok (.aload_n 0, 1) := by decide +kernel
theorem dX13_rounds_30 : decode cX13_rounds 30 = .ok (.getfield 29, 3) := by decide +kernel
theorem dX13_rounds_33 : decode cX13_rounds 33 = .ok (.bipush 18, 2) := by decide +kernel
theorem dX13_rounds_35 : decode cX13_rounds 35 = .ok (.iload_n 1, 1) := by decide +kernel
theorem dX13_rounds_36 : decode cX13_rounds 36 = .ok (.iadd, 1) := by decide +kernel
theorem dX13_rounds_37 : decode cX13_rounds 37 = .ok (.iaload, 1) := by decide +kernel
theorem dX13_rounds_38 : decode cX13_rounds 38 = .ok (.iastore, 1) := by decide +kernel
theorem dX13_rounds_39 : decode cX13_rounds 39 = .ok (.aload_n 0, 1) := by decide +kernel
theorem dX13_rounds_40 : decode cX13_rounds 40 = .ok (.getfield 66, 3) := by decide +kernel
theorem dX13_rounds_43 : decode cX13_rounds 43 = .ok (.iconst 0, 1) := by decide +kernel
theorem dX13_rounds_44 : decode cX13_rounds 44 = .ok (.aload_n 0, 1) := by decide +kernel
theorem dX13_rounds_45 : decode cX13_rounds 45 = .ok (.getfield 29, 3) := by decide +kernel
theorem dX13_rounds_48 : decode cX13_rounds 48 = .ok (.bipush 6, 2) := by decide +kernel
theorem dX13_rounds_50 : decode cX13_rounds 50 = .ok (.iload_n 1, 1) := by decide +kernel
theorem dX13_rounds_51 : decode cX13_rounds 51 = .ok (.iadd, 1) := by decide +kernel
theorem dX13_rounds_52 : decode cX13_rounds 52 = .ok (.iaload, 1) := by decide +kernel
theorem dX13_rounds_53 : decode cX13_rounds 53 = .ok (.iastore, 1) := by decide +kernel
theorem dX13_rounds_54 : decode cX13_rounds 54 = .ok (.aload_n 0, 1) := by decide +kernel
theorem dX13_rounds_55 : decode cX13_rounds 55 = .ok (.getfield 69, 3) := by decide +kernel
theorem dX13_rounds_58 : decode cX13_rounds 58 = .ok (.iconst 0, 1) := by decide +kernel
theorem dX13_rounds_59 : decode cX13_rounds 59 = .ok (.iconst 0, 1) := by decide +kernel
theorem dX13_rounds_60 : decode cX13_rounds 60 = .ok (.iastore, 1) := by decide +kernel
theorem dX13_rounds_61 : decode cX13_rounds 61 = .ok (.aload_n 0, 1) := by decide +kernel
theorem dX13_rounds_62 : decode cX13_rounds 62 = .ok (.getfield 72, 3) := by decide +kernel
theorem dX13_rounds_65 : decode cX13_rounds 65 = .ok (.iconst 0, 1) := by decide +kernel
theorem dX13_rounds_66 : decode cX13_rounds 66 = .ok (.iconst 0, 1) := by decide +kernel
theorem dX13_rounds_67 : decode cX13_rounds 67 = .ok (.iastore, 1) := by decide +kernel
theorem dX13_rounds_68 : decode cX13_rounds 68 = .ok (.iload_n 2, 1) := by decide +kernel
theorem dX13_rounds_69 : decode cX13_rounds 69 = .ok (.ifCond .lt 263, 3) := by decide +kernel
theorem dX13_rounds_72 : decode cX13_rounds 72 = .ok (.aload_n 0, 1) := by decide +kernel
theorem dX13_rounds_73 : decode cX13_rounds 73 = .ok (.getfield 57, 3) := by decide +kernel
theorem dX13_rounds_76 : decode cX13_rounds 76 = .ok (.iload_n 2, 1) := by decide +kernel
theorem dX13_rounds_77 : decode cX13_rounds 77 = .ok (.iaload, 1) := by decide +kernel
theorem dX13_rounds_78 : decode cX13_rounds 78 = .ok (.aload_n 0, 1) := by decide +kernel
theorem dX13_rounds_79 : decode cX13_rounds 79 = .ok (.getfield 78, 3) := by decide +kernel
theorem dX13_rounds_82 : decode cX13_rounds 82 = .ok (.if_icmp .eq 12, 3) := by decide +kernel
theorem dX13_rounds_85 : decode cX13_rounds 85 = .ok (.aload_n 0, 1) := by decide +kernel
theorem dX13_rounds_86 : decode cX13_rounds 86 = .ok (.getfield 66, 3) := by decide +kernel
theorem dX13_rounds_89 : decode cX13_rounds 89 = .ok (.iload_n 2, 1) := by decide +kernel
theorem dX13_rounds_90 : decode cX13_rounds 90 = .ok (.iaload, 1) := by decide +kernel
theorem dX13_rounds_91 : decode cX13_rounds 91 = .ok (.ifCond .ne 9, 3) := by decide +kernel
theorem dX13_rounds_94 : decode cX13_rounds 94 = .ok (.iinc 2 (-1), 3) := by decide +kernel
theorem dX13_rounds_97 : decode cX13_rounds 97 = .ok (.goto (-29), 3) := by decide +kernel
theorem dX13_rounds_100 : decode cX13_rounds 100 = .ok (.aload_n 0, 1) := by decide +kernel
theorem dX13_rounds_101 : decode cX13_rounds 101 = .ok (.getfield 57, 3) := by decide +kernel
theorem dX13_rounds_104 : decode cX13_rounds 104 = .ok (.iload_n 2, 1) := by decide +kernel
theorem dX13_rounds_105 : decode cX13_rounds 105 = .ok (.iaload, 1) := by decide +kernel
theorem dX13_rounds_106 : decode cX13_rounds 106 = .ok (.istore_n 3, 1) := by decide +kernel
theorem dX13_rounds_107 : decode cX13_rounds 107 = .ok (.aload_n 0, 1) := by decide +kernel
theorem dX13_rounds_108 : decode cX13_rounds 108 = .ok (.getfield 57, 3) := by decide +kernel
theorem dX13_rounds_111 : decode cX13_rounds 111 = .ok (.iload_n 2, 1) := by decide +kernel
theorem dX13_rounds_112 : decode cX13_rounds 112 = .ok (.dup2, 1) := by decide +kernel
theorem dX13_rounds_113 : decode cX13_rounds 113 = .ok (.iaload, 1) := by decide +kernel
theorem dX13_rounds_114 : decode cX13_rounds 114 = .ok (.iconst 1, 1) := by decide +kernel
theorem dX13_rounds_115 : decode cX13_rounds 115 = .ok (.iadd, 1) := by decide +kernel
theorem dX13_rounds_116 : decode cX13_rounds 116 = .ok (.iastore, 1) := by decide +kernel
theorem dX13_rounds_117 : decode cX13_rounds 117 = .ok (.aload_n 0, 1) := by decide +kernel
theorem dX13_rounds_118 : decode cX13_rounds 118 = .ok (.getfield 63, 3) := by decide +kernel
theorem dX13_rounds_121 : decode cX13_rounds 121 = .ok (.iload_n 2, 1) := by decide +kernel
theorem dX13_rounds_122 : decode cX13_rounds 122 = .ok (.iaload, 1) := by decide +kernel
theorem dX13_rounds_123 : decode cX13_rounds 123 = .ok (.aload_n 0, 1) := by decide +kernel
theorem dX13_rounds_124 : decode cX13_rounds 124 = .ok (.aload_n 0, 1) := by decide +kernel
theorem dX13_rounds_125 : decode cX13_rounds 125 = .ok (.getfield 60, 3) := by decide +kernel
theorem dX13_rounds_128 : decode cX13_rounds 128 = .ok (.iload_n 2, 1) := by decide +kernel
theorem dX13_rounds_129 : decode cX13_rounds 129 = .ok (.iaload, 1) := by decide +kernel
theorem dX13_rounds_130 : decode cX13_rounds 130 = .ok (.aload_n 0, 1) := by decide +kernel
theorem dX13_rounds_131 : decode cX13_rounds 131 = .ok (.getfield 29, 3) := by decide +kernel
theorem dX13_rounds_134 : decode cX13_rounds 134 = .ok (.bipush 24, 2) := by decide +kernel
theorem dX13_rounds_136 : decode cX13_rounds 136 = .ok (.iload_n 3, 1) := by decide +kernel
theorem dX13_rounds_137 : decode cX13_rounds 137 = .ok (.iadd, 1) := by decide +kernel
theorem dX13_rounds_138 : decode cX13_rounds 138 = .ok (.iaload, 1) := by decide +kernel
theorem dX13_rounds_139 : decode cX13_rounds 139 = .ok (.invokevirtual 148, 3) := by decide +kernel
theorem dX13_rounds_142 : decode cX13_rounds 142 = .ok (.isub, 1) := by decide +kernel
theorem dX13_rounds_143 : decode cX13_rounds 143 = .ok (.aload_n 0, 1) := by decide +kernel
theorem dX13_rounds_144 : decode cX13_rounds 144 = .ok (.iload_n 3, 1) := by decide +kernel
theorem dX13_rounds_145 : decode cX13_rounds 145 = .ok (.invokevirtual 144, 3) := by decide +kernel
theorem dX13_rounds_148 : decode cX13_rounds 148 = .ok (.isub, 1) := by decide +kernel
theorem dX13_rounds_149 : decode cX13_rounds 149 = .ok (.istore 4, 2) := by decide +kernel
theorem dX13_rounds_151 : decode cX13_rounds 151 = .ok (.aload_n 0, 1) := by decide +kernel
theorem dX13_rounds_152 : decode cX13_rounds 152 = .ok (.getfield 69, 3) := by decide +kernel
theorem dX13_rounds_155 : decode cX13_rounds 155 = .ok (.iload_n 2, 1) := by decide +kernel
theorem dX13_rounds_156 : decode cX13_rounds 156 = .ok (.iaload, 1) := by decide +kernel
theorem dX13_rounds_157 : decode cX13_rounds 157 = .ok (.iload_n 3, 1) := by decide +kernel
theorem dX13_rounds_158 : decode cX13_rounds 158 = .ok (.ishr, 1) := by decide +kernel
theorem dX13_rounds_159 : decode cX13_rounds 159 = .ok (.iconst 1, 1) := by decide +kernel
theorem dX13_rounds_160 : decode cX13_rounds 160 = .ok (.iand, 1) := by decide +kernel
theorem dX13_rounds_161 : decode cX13_rounds 161 = .ok (.ifCond .ne 168, 3) := by decide +kernel
theorem dX13_rounds_164 : decode cX13_rounds 164 = .ok (.aload_n 0, 1) := by decide +kernel
theorem dX13_rounds_165 : decode cX13_rounds 165 = .ok (.getfield 29, 3) := by decide +kernel
theorem dX13_rounds_168 : decode cX13_rounds 168 = .ok (.bipush 30, 2) := by decide +kernel
theorem dX13_rounds_170 : decode cX13_rounds 170 = .ok (.iload_n 3, 1) := by decide +kernel
theorem dX13_rounds_171 : decode cX13_rounds 171 = .ok (.iadd, 1) := by decide +kernel
theorem dX13_rounds_172 : decode cX13_rounds 172 = .ok (.iaload, 1) := by decide +kernel
theorem dX13_rounds_173 : decode cX13_rounds 173 = .ok (.ifCond .ne 156, 3) := by decide +kernel
theorem dX13_rounds_176 : decode cX13_rounds 176 = .ok (.iload 4, 2) := by decide +kernel
theorem dX13_rounds_178 : decode cX13_rounds 178 = .ok (.ifCond .lt 151, 3) := by decide +kernel
theorem dX13_rounds_181 : decode cX13_rounds 181 = .ok (.iinc 2 1, 3) := by decide +kernel
theorem dX13_rounds_184 : decode cX13_rounds 184 = .ok (.aload_n 0, 1) := by decide +kernel
theorem dX13_rounds_185 : decode cX13_rounds 185 = .ok (.getfield 57, 3) := by decide +kernel
theorem dX13_rounds_188 : decode cX13_rounds 188 = .ok (.iload_n 2, 1) := by decide +kernel
theorem dX13_rounds_189 : decode cX13_rounds 189 = .ok (.iconst 0, 1) := by decide +kernel
theorem dX13_rounds_190 : decode cX13_rounds 190 = .ok (.iastore, 1) := by decide +kernel
theorem dX13_rounds_191 : decode cX13_rounds 191 = .ok (.aload_n 0, 1) := by decide +kernel
theorem dX13_rounds_192 : decode cX13_rounds 192 = .ok (.getfield 60, 3) := by decide +kernel
theorem dX13_rounds_195 : decode cX13_rounds 195 = .ok (.iload_n 2, 1) := by decide +kernel
theorem dX13_rounds_196 : decode cX13_rounds 196 = .ok (.aload_n 0, 1) := by decide +kernel
theorem dX13_rounds_197 : decode cX13_rounds 197 = .ok (.getfield 29, 3) := by decide +kernel
theorem dX13_rounds_200 : decode cX13_rounds 200 = .ok (.bipush 24, 2) := by decide +kernel
theorem dX13_rounds_202 : decode cX13_rounds 202 = .ok (.iload_n 3, 1) := by decide +kernel
theorem dX13_rounds_203 : decode cX13_rounds 203 = .ok (.iadd, 1) := by decide +kernel
theorem dX13_rounds_204 : decode cX13_rounds 204 = .ok (.iaload, 1) := by decide +kernel
theorem dX13_rounds_205 : decode cX13_rounds 205 = .ok (.iastore, 1) := by decide +kernel
theorem dX13_rounds_206 : decode cX13_rounds 206 = .ok (.aload_n 0, 1) := by decide +kernel
theorem dX13_rounds_207 : decode cX13_rounds 207 = .ok (.getfield 63, 3) := by decide +kernel
theorem dX13_rounds_210 : decode cX13_rounds 210 = .ok (.iload_n 2, 1) := by decide +kernel
theorem dX13_rounds_211 : decode cX13_rounds 211 = .ok (.iload 4, 2) := by decide +kernel
theorem dX13_rounds_213 : decode cX13_rounds 213 = .ok (.iastore, 1) := by decide +kernel
theorem dX13_rounds_214 : decode cX13_rounds 214 = .ok (.aload_n 0, 1) := by decide +kernel
theorem dX13_rounds_215 : decode cX13_rounds 215 = .ok (.getfield 66, 3) := by decide +kernel
theorem dX13_rounds_218 : decode cX13_rounds 218 = .ok (.iload_n 2, 1) := by decide +kernel
theorem dX13_rounds_219 : decode cX13_rounds 219 = .ok (.aload_n 0, 1) := by decide +kernel
theorem dX13_rounds_220 : decode cX13_rounds 220 = .ok (.iconst 0, 1) := by decide +kernel
theorem dX13_rounds_221 : decode cX13_rounds 221 = .ok (.aload_n 0, 1) := by decide +kernel
theorem dX13_rounds_222 : decode cX13_rounds 222 = .ok (.getfield 66, 3) := by decide +kernel
theorem dX13_rounds_225 : decode cX13_rounds 225 = .ok (.iload_n 2, 1) := by decide +kernel
theorem dX13_rounds_226 : decode cX13_rounds 226 = .ok (.iconst 1, 1) := by decide +kernel
theorem dX13_rounds_227 : decode cX13_rounds 227 = .ok (.isub, 1) := by decide +kernel
theorem dX13_rounds_228 : decode cX13_rounds 228 = .ok (.iaload, 1) := by decide +kernel
theorem dX13_rounds_229 : decode cX13_rounds 229 = .ok (.aload_n 0, 1) := by decide +kernel
theorem dX13_rounds_230 : decode cX13_rounds 230 = .ok (.iload_n 3, 1) := by decide +kernel
theorem dX13_rounds_231 : decode cX13_rounds 231 = .ok (.invokevirtual 144, 3) := by decide +kernel
theorem dX13_rounds_234 : decode cX13_rounds 234 = .ok (.aload_n 0, 1) := by decide +kernel
theorem dX13_rounds_235 : decode cX13_rounds 235 = .ok (.iload_n 1, 1) := by decide +kernel
theorem dX13_rounds_236 : decode cX13_rounds 236 = .ok (.iload_n 3, 1) := by decide +kernel
theorem dX13_rounds_237 : decode cX13_rounds 237 = .ok (.invokevirtual 191, 3) := by decide +kernel
theorem dX13_rounds_240 : decode cX13_rounds 240 = .ok (.imul, 1) := by decide +kernel
theorem dX13_rounds_241 : decode cX13_rounds 241 = .ok (.isub, 1) := by decide +kernel
theorem dX13_rounds_242 : decode cX13_rounds 242 = .ok (.invokevirtual 141, 3) := by decide +kernel
theorem dX13_rounds_245 : decode cX13_rounds 245 = .ok (.iastore, 1) := by decide +kernel
theorem dX13_rounds_246 : decode cX13_rounds 246 = .ok (.aload_n 0, 1) := by decide +kernel
theorem dX13_rounds_247 : decode cX13_rounds 247 = .ok (.getfield 69, 3) := by decide +kernel
theorem dX13_rounds_250 : decode cX13_rounds 250 = .ok (.iload_n 2, 1) := by decide +kernel
theorem dX13_rounds_251 : decode cX13_rounds 251 = .ok (.aload_n 0, 1) := by decide +kernel
theorem dX13_rounds_252 : decode cX13_rounds 252 = .ok (.getfield 69, 3) := by decide +kernel
theorem dX13_rounds_255 : decode cX13_rounds 255 = .ok (.iload_n 2, 1) := by decide +kernel
theorem dX13_rounds_256 : decode cX13_rounds 256 = .ok (.iconst 1, 1) := by decide +kernel
theorem dX13_rounds_257 : decode cX13_rounds 257 = .ok (.isub, 1) := by decide +kernel
theorem dX13_rounds_258 : decode cX13_rounds 258 = .ok (.iaload, 1) := by decide +kernel
theorem dX13_rounds_259 : decode cX13_rounds 259 = .ok (.iconst 1, 1) := by decide +kernel
theorem dX13_rounds_260 : decode cX13_rounds 260 = .ok (.iload_n 3, 1) := by decide +kernel
theorem dX13_rounds_261 : decode cX13_rounds 261 = .ok (.ishl, 1) := by decide +kernel
theorem dX13_rounds_262 : decode cX13_rounds 262 = .ok (.ior, 1) := by decide +kernel
theorem dX13_rounds_263 : decode cX13_rounds 263 = .ok (.iastore, 1) := by decide +kernel
theorem dX13_rounds_264 : decode cX13_rounds 264 = .ok (.aload_n 0, 1) := by decide +kernel
theorem dX13_rounds_265 : decode cX13_rounds 265 = .ok (.getfield 72, 3) := by decide +kernel
theorem dX13_rounds_268 : decode cX13_rounds 268 = .ok (.iload_n 2, 1) := by decide +kernel
theorem dX13_rounds_269 : decode cX13_rounds 269 = .ok (.bipush 10, 2) := by decide +kernel
theorem dX13_rounds_271 : decode cX13_rounds 271 = .ok (.aload_n 0, 1) := by decide +kernel
theorem dX13_rounds_272 : decode cX13_rounds 272 = .ok (.getfield 72, 3) := by decide +kernel
theorem dX13_rounds_275 : decode cX13_rounds 275 = .ok (.iload_n 2, 1) := by decide +kernel
theorem dX13_rounds_276 : decode cX13_rounds 276 = .ok (.iconst 1, 1) := by decide +kernel
theorem dX13_rounds_277 : decode cX13_rounds 277 = .ok (.isub, 1) := by decide +kernel
theorem dX13_rounds_278 : decode cX13_rounds 278 = .ok (.iaload, 1) := by decide +kernel
theorem dX13_rounds_279 : decode cX13_rounds 279 = .ok (.imul, 1) := by decide +kernel
theorem dX13_rounds_280 : decode cX13_rounds 280 = .ok (.iload_n 3, 1) := by decide +kernel
theorem dX13_rounds_281 : decode cX13_rounds 281 = .ok (.iadd, 1) := by decide +kernel
theorem dX13_rounds_282 : decode cX13_rounds 282 = .ok (.iconst 1, 1) := by decide +kernel
theorem dX13_rounds_283 : decode cX13_rounds 283 = .ok (.iadd, 1) := by decide +kernel
theorem dX13_rounds_284 : decode cX13_rounds 284 = .ok (.iastore, 1) := by decide +kernel
theorem dX13_rounds_285 : decode cX13_rounds 285 = .ok (.iload_n 2, 1) := by decide +kernel
theorem dX13_rounds_286 : decode cX13_rounds 286 = .ok (.aload_n 0, 1) := by decide +kernel
theorem dX13_rounds_287 : decode cX13_rounds 287 = .ok (.getfield 244, 3) := by decide +kernel
theorem dX13_rounds_290 : decode cX13_rounds 290 = .ok (.if_icmp .gt 24, 3) := by decide +kernel
theorem dX13_rounds_293 : decode cX13_rounds 293 = .ok (.iload_n 2, 1) := by decide +kernel
theorem dX13_rounds_294 : decode cX13_rounds 294 = .ok (.aload_n 0, 1) := by decide +kernel
theorem dX13_rounds_295 : decode cX13_rounds 295 = .ok (.getfield 244, 3) := by decide +kernel
theorem dX13_rounds_298 : decode cX13_rounds 298 = .ok (.if_icmp .ne 31, 3) := by decide +kernel
theorem dX13_rounds_301 : decode cX13_rounds 301 = .ok (.aload_n 0, 1) := by decide +kernel
theorem dX13_rounds_302 : decode cX13_rounds 302 = .ok (.getfield 72, 3) := by decide +kernel
theorem dX13_rounds_305 : decode cX13_rounds 305 = .ok (.iload_n 2, 1) := by decide +kernel
theorem dX13_rounds_306 : decode cX13_rounds 306 = .ok (.iaload, 1) := by decide +kernel
theorem dX13_rounds_307 : decode cX13_rounds 307 = .ok (.aload_n 0, 1) := by decide +kernel
theorem dX13_rounds_308 : decode cX13_rounds 308 = .ok (.getfield 247, 3) := by decide +kernel
theorem dX13_rounds_311 : decode cX13_rounds 311 = .ok (.if_icmp .ge 18, 3) := by decide +kernel
theorem dX13_rounds_314 : decode cX13_rounds 314 = .ok (.aload_n 0, 1) := by decide +kernel
theorem dX13_rounds_315 : decode cX13_rounds 315 = .ok (.iload_n 2, 1) := by decide +kernel
theorem dX13_rounds_316 : decode cX13_rounds 316 = .ok (.putfield 244, 3) := by decide +kernel
theorem dX13_rounds_319 : decode cX13_rounds 319 = .ok (.aload_n 0, 1) := by decide +kernel
theorem dX13_rounds_320 : decode cX13_rounds 320 = .ok (.aload_n 0, 1) := by decide +kernel
theorem dX13_rounds_321 : decode cX13_rounds 321 = .ok (.getfield 72, 3) := by decide +kernel
theorem dX13_rounds_324 : decode cX13_rounds 324 = .ok (.iload_n 2, 1) := by decide +kernel
theorem dX13_rounds_325 : decode cX13_rounds 325 = .ok (.iaload, 1) := by decide +kernel
theorem dX13_rounds_326 : decode cX13_rounds 326 = .ok (.putfield 247, 3) := by decide +kernel
theorem dX13_rounds_329 : decode cX13_rounds 329 = .ok (.goto (-261), 3) := by decide +kernel
theorem dX13_rounds_332 : decode cX13_rounds 332 = .ok (.return_, 1) := by decide +kernel
def f_X13_rounds_314 (rec : Nat → Int32 → Int32 → AH → Option (AH)) (v0 : Nat) (v1 : Int32) (v2 : Int32) (h : AH) : Option (AH) := (pf h 12 v0 30 (.int v2)).bind fun h1 => (gr h1 12 v0 37).bind fun r2 => (ai h1 0 r2 v2).bind fun x3 => (pf h1 12 v0 31 (.int x3)).bind fun h4 => rec v0 v1 v2 h4
set_option maxRecDepth 100000 in
set_option maxHeartbeats 4000000 in
theorem j_X13_rounds_314 (X : SX) (d : Nat) (rec : Nat → Int32 → Int32 → AH → Option (AH)) (hrecf : ∀ (rv : Option Int32) (h' : AH), ∀ (v0 : Nat) (v1 : Int32) (v2 : Int32) (h : AH)  (h1 : AH), rec v0 v1 v2 h = some (h1) → G X mX13_rounds (d + 2) 332 [] [] h1 rv h' → G X mX13_rounds (d + 2) 68 [(0, .ref v0), (1, .int v1), (2, .int v2)] [] h rv h') (v0 : Nat) (v1 : Int32) (v2 : Int32) (h : AH)  (h1 : AH) (hf : f_X13_rounds_314 rec v0 v1 v2 h = some (h1)) (rv : Option Int32) (h' : AH) (hE : G X mX13_rounds (d + 2) 332 [] [] h1 rv h') : G X mX13_rounds (d + 2) 314 [(0, .ref v0), (1, .int v1), (2, .int v2)] [] h rv h' := by
  unfold f_X13_rounds_314 at hf
  have hrec := hrecf rv h'
  refine G.aload_n dX13_rounds_314 rfl ?_
  refine G.iload_n dX13_rounds_315 rfl ?_
  refine G.put flX13_244 (Or.inl rfl) (fun _ _ => ⟨rfl, rfl⟩) dX13_rounds_316 hf (fun h1 hf => ?_)
  refine G.aload_n dX13_rounds_319 rfl ?_
  refine G.aload_n dX13_rounds_320 rfl ?_
  refine G.getr flX13_72 dX13_rounds_321 hf (fun r2 hf => ?_)
  refine G.iload_n dX13_rounds_324 rfl ?_
  refine G.iald dX13_rounds_325 hf (fun x3 hf => ?_)
  refine G.put flX13_247 (Or.inl rfl) (fun _ _ => ⟨rfl, rfl⟩) dX13_rounds_326 hf (fun h4 hf => ?_)
  refine G.goto 68 dX13_rounds_329 (by decide) ?_
  exact G.pick [0, 1, 2] rfl (hrec v0 v1 v2 h4 _ hf hE)
def F_X13_rounds_L68 (rec : Nat → Int32 → Int32 → AH → Option (AH)) (v0 : Nat) (v1 : Int32) (v2 : Int32) (h : AH) : Option (AH) := if v2 < 0 then (some (h)) else ((gr h 12 v0 32).bind fun r2 => (ai h 0 r2 v2).bind fun x3 => (gi h 12 v0 6).bind fun x4 => if x3 = x4 then (rec v0 v1 (v2 + (-1)) h) else ((gr h 12 v0 35).bind fun r6 => (ai h 0 r6 v2).bind fun x7 => if x7 = 0 then (rec v0 v1 (v2 + (-1)) h) else ((gr h 12 v0 32).bind fun r9 => (ai h 0 r9 v2).bind fun x10 => (gr h 12 v0 32).bind fun r11 => (ai h 0 r11 v2).bind fun x12 => (aw h 0 r11 v2 (x12 + (1 : Int32))).bind fun h13 => (gr h13 12 v0 34).bind fun r14 => (ai h13 0 r14 v2).bind fun x15 => (gr h13 12 v0 33).bind fun r16 => (ai h13 0 r16 v2).bind fun x17 => (gr h13 12 v0 11).bind fun r18 => (ai h13 0 r18 ((24 : Int32) + x10)).bind fun x19 => bT1 (f_X13_apart v0 x17 x19 h13) fun x22 h20 => bT1 (f_X13_needs v0 x10 h20) fun x25 h23 => (gr h23 12 v0 36).bind fun r26 => (ai h23 0 r26 v2).bind fun x27 => if ((x27 >>> (x10 &&& 31)) &&& (1 : Int32)) = 0 then ((gr h23 12 v0 11).bind fun r29 => (ai h23 0 r29 ((30 : Int32) + x10)).bind fun x30 => if x30 = 0 then (if ((x15 - x22) - x25) < 0 then (rec v0 v1 v2 h23) else ((gr h23 12 v0 32).bind fun r33 => (aw h23 0 r33 (v2 + 1) (0 : Int32)).bind fun h34 => (gr h34 12 v0 33).bind fun r35 => (gr h34 12 v0 11).bind fun r36 => (ai h34 0 r36 ((24 : Int32) + x10)).bind fun x37 => (aw h34 0 r35 (v2 + 1) x37).bind fun h38 => (gr h38 12 v0 34).bind fun r39 => (aw h38 0 r39 (v2 + 1) ((x15 - x22) - x25)).bind fun h40 => (gr h40 12 v0 35).bind fun r41 => (gr h40 12 v0 35).bind fun r42 => (ai h40 0 r42 ((v2 + 1) - (1 : Int32))).bind fun x43 => bT1 (f_X13_needs v0 x10 h40) fun x46 h44 => bT1 (f_X13_pay v0 v1 x10 h44) fun x49 h47 => bT1 (f_X13_max v0 (0 : Int32) (x43 - (x46 * x49)) h47) fun x52 h50 => (aw h50 0 r41 (v2 + 1) x52).bind fun h53 => (gr h53 12 v0 36).bind fun r54 => (gr h53 12 v0 36).bind fun r55 => (ai h53 0 r55 ((v2 + 1) - (1 : Int32))).bind fun x56 => (aw h53 0 r54 (v2 + 1) (x56 ||| ((1 : Int32) <<< (x10 &&& 31)))).bind fun h57 => (gr h57 12 v0 37).bind fun r58 => (gr h57 12 v0 37).bind fun r59 => (ai h57 0 r59 ((v2 + 1) - (1 : Int32))).bind fun x60 => (aw h57 0 r58 (v2 + 1) ((((10 : Int32) * x60) + x10) + (1 : Int32))).bind fun h61 => (gi h61 12 v0 30).bind fun x62 => if x62 < (v2 + 1) then (f_X13_rounds_314 rec v0 v1 (v2 + 1) h61) else ((gi h61 12 v0 30).bind fun x64 => if (v2 + 1) = x64 then ((gr h61 12 v0 37).bind fun r66 => (ai h61 0 r66 (v2 + 1)).bind fun x67 => (gi h61 12 v0 31).bind fun x68 => if x68 ≤ x67 then (rec v0 v1 (v2 + 1) h61) else (f_X13_rounds_314 rec v0 v1 (v2 + 1) h61)) else (rec v0 v1 (v2 + 1) h61)))) else (rec v0 v1 v2 h23)) else (rec v0 v1 v2 h23))))
def f_X13_rounds_L68 : Nat → Nat → Int32 → Int32 → AH → Option (AH)
  | 0 => fun _ _ _ _ => none
  | n + 1 => F_X13_rounds_L68 (f_X13_rounds_L68 n)
set_option maxRecDepth 100000 in
set_option maxHeartbeats 4000000 in
theorem lx_X13_rounds_L68 (X : SX) (d : Nat) : ∀ n (rv : Option Int32) (h' : AH), ∀ (v0 : Nat) (v1 : Int32) (v2 : Int32) (h : AH)  (h1 : AH), f_X13_rounds_L68 n v0 v1 v2 h = some (h1) → G X mX13_rounds (d + 2) 332 [] [] h1 rv h' → G X mX13_rounds (d + 2) 68 [(0, .ref v0), (1, .int v1), (2, .int v2)] [] h rv h' := by
  intro n
  induction n with
  | zero =>
    intro rv h' v0 v1 v2 h h1 hf hE
    cases hf
  | succ n ihf =>
    intro rv h' v0 v1 v2 h h1 hf hE
    replace hf : F_X13_rounds_L68 (f_X13_rounds_L68 n) v0 v1 v2 h = some (h1) := hf
    unfold F_X13_rounds_L68 at hf
    have ih := ihf rv h'
    refine G.iload_n dX13_rounds_68 rfl ?_
    refine G.if_lt 332 dX13_rounds_69 (by decide) (fun c1 => ?_) (fun c1 => ?_)
    · rw [if_pos c1] at hf
      have w0 := Option.some.inj hf
      subst w0
      exact G.pick [] rfl hE
    · rw [if_neg c1] at hf
      refine G.aload_n dX13_rounds_72 rfl ?_
      refine G.getr flX13_57 dX13_rounds_73 hf (fun r2 hf => ?_)
      refine G.iload_n dX13_rounds_76 rfl ?_
      refine G.iald dX13_rounds_77 hf (fun x3 hf => ?_)
      refine G.aload_n dX13_rounds_78 rfl ?_
      refine G.geti flX13_78 dX13_rounds_79 hf (fun x4 hf => ?_)
      refine G.icmp_eq 94 dX13_rounds_82 (by decide) (fun c5 => ?_) (fun c5 => ?_)
      · rw [if_pos c5] at hf
        refine G.iinc (v := (v2 + (-1))) (lv' := [(2, .int (v2 + (-1))), (0, .ref v0), (1, .int v1)]) dX13_rounds_94 rfl rfl (by decide) rfl ?_
        refine G.goto 68 dX13_rounds_97 (by decide) ?_
        exact G.pick [1, 2, 0] rfl (ih v0 v1 (v2 + (-1)) h _ hf hE)
      · rw [if_neg c5] at hf
        refine G.aload_n dX13_rounds_85 rfl ?_
        refine G.getr flX13_66 dX13_rounds_86 hf (fun r6 hf => ?_)
        refine G.iload_n dX13_rounds_89 rfl ?_
        refine G.iald dX13_rounds_90 hf (fun x7 hf => ?_)
        refine G.if_ne 100 dX13_rounds_91 (by decide) (fun c8 => ?_) (fun c8 => ?_)
        · rw [if_neg c8] at hf
          refine G.aload_n dX13_rounds_100 rfl ?_
          refine G.getr flX13_57 dX13_rounds_101 hf (fun r9 hf => ?_)
          refine G.iload_n dX13_rounds_104 rfl ?_
          refine G.iald dX13_rounds_105 hf (fun x10 hf => ?_)
          refine G.istore_n (lv' := [(3, .int x10), (0, .ref v0), (1, .int v1), (2, .int v2)]) dX13_rounds_106 (by decide) rfl ?_
          refine G.aload_n dX13_rounds_107 rfl ?_
          refine G.getr flX13_57 dX13_rounds_108 hf (fun r11 hf => ?_)
          refine G.iload_n dX13_rounds_111 rfl ?_
          refine G.dup2 dX13_rounds_112 rfl rfl ?_
          refine G.iald dX13_rounds_113 hf (fun x12 hf => ?_)
          refine G.iconst (v := (1 : Int32)) dX13_rounds_114 (by decide) ?_
          refine G.iadd dX13_rounds_115 ?_
          refine G.iast dX13_rounds_116 hf (fun h13 hf => ?_)
          refine G.aload_n dX13_rounds_117 rfl ?_
          refine G.getr flX13_63 dX13_rounds_118 hf (fun r14 hf => ?_)
          refine G.iload_n dX13_rounds_121 rfl ?_
          refine G.iald dX13_rounds_122 hf (fun x15 hf => ?_)
          refine G.aload_n dX13_rounds_123 rfl ?_
          refine G.aload_n dX13_rounds_124 rfl ?_
          refine G.getr flX13_60 dX13_rounds_125 hf (fun r16 hf => ?_)
          refine G.iload_n dX13_rounds_128 rfl ?_
          refine G.iald dX13_rounds_129 hf (fun x17 hf => ?_)
          refine G.aload_n dX13_rounds_130 rfl ?_
          refine G.getr flX13_29 dX13_rounds_131 hf (fun r18 hf => ?_)
          refine G.bipush (v := (24 : Int32)) dX13_rounds_134 (by decide) ?_
          refine G.iload_n dX13_rounds_136 rfl ?_
          refine G.iadd dX13_rounds_137 ?_
          refine G.iald dX13_rounds_138 hf (fun x19 hf => ?_)
          obtain ⟨x22, h20, e21, hf⟩ := bT1_spec hf
          refine G.callVi (M' := mX13_apart) (ci := 12) (As := [.int x17, .int x19]) (st := [.int x15]) okX13_apart viX13_apart lkX13_148 rfl rfl rfl (Nat.le_of_ble_eq_true rfl) (Nat.le_of_ble_eq_true rfl) dX13_rounds_139 (c_X13_apart X (d + 1) _ _ _ _ _ _ e21).1 (c_X13_apart X (d + 1) _ _ _ _ _ _ e21).2 ?_
          refine G.isub dX13_rounds_142 ?_
          refine G.aload_n dX13_rounds_143 rfl ?_
          refine G.iload_n dX13_rounds_144 rfl ?_
          obtain ⟨x25, h23, e24, hf⟩ := bT1_spec hf
          refine G.callVi (M' := mX13_needs) (ci := 12) (As := [.int x10]) (st := [.int (x15 - x22)]) okX13_needs viX13_needs lkX13_144 rfl rfl rfl (Nat.le_of_ble_eq_true rfl) (Nat.le_of_ble_eq_true rfl) dX13_rounds_145 (c_X13_needs X d _ _ _ _ _ e24).1 (c_X13_needs X d _ _ _ _ _ e24).2 ?_
          refine G.isub dX13_rounds_148 ?_
          refine G.istore (lv' := [(4, .int ((x15 - x22) - x25)), (3, .int x10), (0, .ref v0), (1, .int v1), (2, .int v2)]) dX13_rounds_149 (by decide) rfl ?_
          refine G.aload_n dX13_rounds_151 rfl ?_
          refine G.getr flX13_69 dX13_rounds_152 hf (fun r26 hf => ?_)
          refine G.iload_n dX13_rounds_155 rfl ?_
          refine G.iald dX13_rounds_156 hf (fun x27 hf => ?_)
          refine G.iload_n dX13_rounds_157 rfl ?_
          refine G.ishr dX13_rounds_158 ?_
          refine G.iconst (v := (1 : Int32)) dX13_rounds_159 (by decide) ?_
          refine G.iand dX13_rounds_160 ?_
          refine G.if_ne 329 dX13_rounds_161 (by decide) (fun c28 => ?_) (fun c28 => ?_)
          · rw [if_neg c28] at hf
            refine G.goto 68 dX13_rounds_329 (by decide) ?_
            exact G.pick [2, 3, 4] rfl (ih v0 v1 v2 h23 _ hf hE)
          · rw [if_pos c28] at hf
            refine G.aload_n dX13_rounds_164 rfl ?_
            refine G.getr flX13_29 dX13_rounds_165 hf (fun r29 hf => ?_)
            refine G.bipush (v := (30 : Int32)) dX13_rounds_168 (by decide) ?_
            refine G.iload_n dX13_rounds_170 rfl ?_
            refine G.iadd dX13_rounds_171 ?_
            refine G.iald dX13_rounds_172 hf (fun x30 hf => ?_)
            refine G.if_ne 329 dX13_rounds_173 (by decide) (fun c31 => ?_) (fun c31 => ?_)
            · rw [if_neg c31] at hf
              refine G.goto 68 dX13_rounds_329 (by decide) ?_
              exact G.pick [2, 3, 4] rfl (ih v0 v1 v2 h23 _ hf hE)
            · rw [if_pos c31] at hf
              refine G.iload dX13_rounds_176 rfl ?_
              refine G.if_lt 329 dX13_rounds_178 (by decide) (fun c32 => ?_) (fun c32 => ?_)
              · rw [if_pos c32] at hf
                refine G.goto 68 dX13_rounds_329 (by decide) ?_
                exact G.pick [2, 3, 4] rfl (ih v0 v1 v2 h23 _ hf hE)
              · rw [if_neg c32] at hf
                refine G.iinc (v := (v2 + 1)) (lv' := [(2, .int (v2 + 1)), (4, .int ((x15 - x22) - x25)), (3, .int x10), (0, .ref v0), (1, .int v1)]) dX13_rounds_181 rfl rfl (by decide) rfl ?_
                refine G.aload_n dX13_rounds_184 rfl ?_
                refine G.getr flX13_57 dX13_rounds_185 hf (fun r33 hf => ?_)
                refine G.iload_n dX13_rounds_188 rfl ?_
                refine G.iconst (v := (0 : Int32)) dX13_rounds_189 (by decide) ?_
                refine G.iast dX13_rounds_190 hf (fun h34 hf => ?_)
                refine G.aload_n dX13_rounds_191 rfl ?_
                refine G.getr flX13_60 dX13_rounds_192 hf (fun r35 hf => ?_)
                refine G.iload_n dX13_rounds_195 rfl ?_
                refine G.aload_n dX13_rounds_196 rfl ?_
                refine G.getr flX13_29 dX13_rounds_197 hf (fun r36 hf => ?_)
                refine G.bipush (v := (24 : Int32)) dX13_rounds_200 (by decide) ?_
                refine G.iload_n dX13_rounds_202 rfl ?_
                refine G.iadd dX13_rounds_203 ?_
                refine G.iald dX13_rounds_204 hf (fun x37 hf => ?_)
                refine G.iast dX13_rounds_205 hf (fun h38 hf => ?_)
                refine G.aload_n dX13_rounds_206 rfl ?_
                refine G.getr flX13_63 dX13_rounds_207 hf (fun r39 hf => ?_)
                refine G.iload_n dX13_rounds_210 rfl ?_
                refine G.iload dX13_rounds_211 rfl ?_
                refine G.iast dX13_rounds_213 hf (fun h40 hf => ?_)
                refine G.aload_n dX13_rounds_214 rfl ?_
                refine G.getr flX13_66 dX13_rounds_215 hf (fun r41 hf => ?_)
                refine G.iload_n dX13_rounds_218 rfl ?_
                refine G.aload_n dX13_rounds_219 rfl ?_
                refine G.iconst (v := (0 : Int32)) dX13_rounds_220 (by decide) ?_
                refine G.aload_n dX13_rounds_221 rfl ?_
                refine G.getr flX13_66 dX13_rounds_222 hf (fun r42 hf => ?_)
                refine G.iload_n dX13_rounds_225 rfl ?_
                refine G.iconst (v := (1 : Int32)) dX13_rounds_226 (by decide) ?_
                refine G.isub dX13_rounds_227 ?_
                refine G.iald dX13_rounds_228 hf (fun x43 hf => ?_)
                refine G.aload_n dX13_rounds_229 rfl ?_
                refine G.iload_n dX13_rounds_230 rfl ?_
                obtain ⟨x46, h44, e45, hf⟩ := bT1_spec hf
                refine G.callVi (M' := mX13_needs) (ci := 12) (As := [.int x10]) (st := [.int x43, .int (0 : Int32), .ref v0, .int (v2 + 1), .ref r41]) okX13_needs viX13_needs lkX13_144 rfl rfl rfl (Nat.le_of_ble_eq_true rfl) (Nat.le_of_ble_eq_true rfl) dX13_rounds_231 (c_X13_needs X d _ _ _ _ _ e45).1 (c_X13_needs X d _ _ _ _ _ e45).2 ?_
                refine G.aload_n dX13_rounds_234 rfl ?_
                refine G.iload_n dX13_rounds_235 rfl ?_
                refine G.iload_n dX13_rounds_236 rfl ?_
                obtain ⟨x49, h47, e48, hf⟩ := bT1_spec hf
                refine G.callVi (M' := mX13_pay) (ci := 12) (As := [.int v1, .int x10]) (st := [.int x46, .int x43, .int (0 : Int32), .ref v0, .int (v2 + 1), .ref r41]) okX13_pay viX13_pay lkX13_191 rfl rfl rfl (Nat.le_of_ble_eq_true rfl) (Nat.le_of_ble_eq_true rfl) dX13_rounds_237 (c_X13_pay X (d + 1) _ _ _ _ _ _ e48).1 (c_X13_pay X (d + 1) _ _ _ _ _ _ e48).2 ?_
                refine G.imul dX13_rounds_240 ?_
                refine G.isub dX13_rounds_241 ?_
                obtain ⟨x52, h50, e51, hf⟩ := bT1_spec hf
                refine G.callVi (M' := mX13_max) (ci := 12) (As := [.int (0 : Int32), .int (x43 - (x46 * x49))]) (st := [.int (v2 + 1), .ref r41]) okX13_max viX13_max lkX13_141 rfl rfl rfl (Nat.le_of_ble_eq_true rfl) (Nat.le_of_ble_eq_true rfl) dX13_rounds_242 (c_X13_max X (d + 1) _ _ _ _ _ _ e51).1 (c_X13_max X (d + 1) _ _ _ _ _ _ e51).2 ?_
                refine G.iast dX13_rounds_245 hf (fun h53 hf => ?_)
                refine G.aload_n dX13_rounds_246 rfl ?_
                refine G.getr flX13_69 dX13_rounds_247 hf (fun r54 hf => ?_)
                refine G.iload_n dX13_rounds_250 rfl ?_
                refine G.aload_n dX13_rounds_251 rfl ?_
                refine G.getr flX13_69 dX13_rounds_252 hf (fun r55 hf => ?_)
                refine G.iload_n dX13_rounds_255 rfl ?_
                refine G.iconst (v := (1 : Int32)) dX13_rounds_256 (by decide) ?_
                refine G.isub dX13_rounds_257 ?_
                refine G.iald dX13_rounds_258 hf (fun x56 hf => ?_)
                refine G.iconst (v := (1 : Int32)) dX13_rounds_259 (by decide) ?_
                refine G.iload_n dX13_rounds_260 rfl ?_
                refine G.ishl dX13_rounds_261 ?_
                refine G.ior dX13_rounds_262 ?_
                refine G.iast dX13_rounds_263 hf (fun h57 hf => ?_)
                refine G.aload_n dX13_rounds_264 rfl ?_
                refine G.getr flX13_72 dX13_rounds_265 hf (fun r58 hf => ?_)
                refine G.iload_n dX13_rounds_268 rfl ?_
                refine G.bipush (v := (10 : Int32)) dX13_rounds_269 (by decide) ?_
                refine G.aload_n dX13_rounds_271 rfl ?_
                refine G.getr flX13_72 dX13_rounds_272 hf (fun r59 hf => ?_)
                refine G.iload_n dX13_rounds_275 rfl ?_
                refine G.iconst (v := (1 : Int32)) dX13_rounds_276 (by decide) ?_
                refine G.isub dX13_rounds_277 ?_
                refine G.iald dX13_rounds_278 hf (fun x60 hf => ?_)
                refine G.imul dX13_rounds_279 ?_
                refine G.iload_n dX13_rounds_280 rfl ?_
                refine G.iadd dX13_rounds_281 ?_
                refine G.iconst (v := (1 : Int32)) dX13_rounds_282 (by decide) ?_
                refine G.iadd dX13_rounds_283 ?_
                refine G.iast dX13_rounds_284 hf (fun h61 hf => ?_)
                refine G.iload_n dX13_rounds_285 rfl ?_
                refine G.aload_n dX13_rounds_286 rfl ?_
                refine G.geti flX13_244 dX13_rounds_287 hf (fun x62 hf => ?_)
                refine G.icmp_gt 314 dX13_rounds_290 (by decide) (fun c63 => ?_) (fun c63 => ?_)
                · rw [if_pos c63] at hf
                  exact G.pick [3, 4, 0] rfl (j_X13_rounds_314 X d _ ihf v0 v1 (v2 + 1) h61 _ hf _ _ hE)
                · rw [if_neg c63] at hf
                  refine G.iload_n dX13_rounds_293 rfl ?_
                  refine G.aload_n dX13_rounds_294 rfl ?_
                  refine G.geti flX13_244 dX13_rounds_295 hf (fun x64 hf => ?_)
                  refine G.icmp_ne 329 dX13_rounds_298 (by decide) (fun c65 => ?_) (fun c65 => ?_)
                  · rw [if_neg c65] at hf
                    refine G.goto 68 dX13_rounds_329 (by decide) ?_
                    exact G.pick [3, 4, 0] rfl (ih v0 v1 (v2 + 1) h61 _ hf hE)
                  · rw [if_pos c65] at hf
                    refine G.aload_n dX13_rounds_301 rfl ?_
                    refine G.getr flX13_72 dX13_rounds_302 hf (fun r66 hf => ?_)
                    refine G.iload_n dX13_rounds_305 rfl ?_
                    refine G.iald dX13_rounds_306 hf (fun x67 hf => ?_)
                    refine G.aload_n dX13_rounds_307 rfl ?_
                    refine G.geti flX13_247 dX13_rounds_308 hf (fun x68 hf => ?_)
                    refine G.icmp_ge 329 dX13_rounds_311 (by decide) (fun c69 => ?_) (fun c69 => ?_)
                    · rw [if_pos c69] at hf
                      refine G.goto 68 dX13_rounds_329 (by decide) ?_
                      exact G.pick [3, 4, 0] rfl (ih v0 v1 (v2 + 1) h61 _ hf hE)
                    · rw [if_neg c69] at hf
                      exact G.pick [3, 4, 0] rfl (j_X13_rounds_314 X d _ ihf v0 v1 (v2 + 1) h61 _ hf _ _ hE)
        · rw [if_pos c8] at hf
          refine G.iinc (v := (v2 + (-1))) (lv' := [(2, .int (v2 + (-1))), (0, .ref v0), (1, .int v1)]) dX13_rounds_94 rfl rfl (by decide) rfl ?_
          refine G.goto 68 dX13_rounds_97 (by decide) ?_
          exact G.pick [1, 2, 0] rfl (ih v0 v1 (v2 + (-1)) h _ hf hE)
theorem l_X13_rounds_L68 (X : SX) (d : Nat) (rv : Option Int32) (h' : AH) (n : Nat) : ∀ (v0 : Nat) (v1 : Int32) (v2 : Int32) (h : AH)  (h1 : AH), f_X13_rounds_L68 n v0 v1 v2 h = some (h1) → G X mX13_rounds (d + 2) 332 [] [] h1 rv h' → G X mX13_rounds (d + 2) 68 [(0, .ref v0), (1, .int v1), (2, .int v2)] [] h rv h' := lx_X13_rounds_L68 X d n rv h'
def f_X13_rounds (a0 : Nat) (a1 : Int32) (h : AH) : Option (AH) := if isO h 12 a0 = true then ((gr h 12 a0 32).bind fun r1 => (aw h 0 r1 (0 : Int32) (0 : Int32)).bind fun h2 => (gr h2 12 a0 33).bind fun r3 => (gr h2 12 a0 11).bind fun r4 => (ai h2 0 r4 ((12 : Int32) + a1)).bind fun x5 => (aw h2 0 r3 (0 : Int32) x5).bind fun h6 => (gr h6 12 a0 34).bind fun r7 => (gr h6 12 a0 11).bind fun r8 => (ai h6 0 r8 ((18 : Int32) + a1)).bind fun x9 => (aw h6 0 r7 (0 : Int32) x9).bind fun h10 => (gr h10 12 a0 35).bind fun r11 => (gr h10 12 a0 11).bind fun r12 => (ai h10 0 r12 ((6 : Int32) + a1)).bind fun x13 => (aw h10 0 r11 (0 : Int32) x13).bind fun h14 => (gr h14 12 a0 36).bind fun r15 => (aw h14 0 r15 (0 : Int32) (0 : Int32)).bind fun h16 => (gr h16 12 a0 37).bind fun r17 => (aw h16 0 r17 (0 : Int32) (0 : Int32)).bind fun h18 => (f_X13_rounds_L68 1000000 a0 a1 (0 : Int32) h18).bind fun h19 => some h19) else none
set_option maxRecDepth 100000 in
set_option maxHeartbeats 4000000 in
theorem c_X13_rounds (X : SX) (d : Nat) (a0 : Nat) (a1 : Int32) (h : AH) (h' : AH) (hf : f_X13_rounds a0 a1 h = some h') : isO h 12 a0 = true ∧ G X mX13_rounds (d + 2) 0 [(0, .ref a0), (1, .int a1)] [] h none h' := by
  unfold f_X13_rounds at hf
  by_cases ho : isO h 12 a0 = true
  · rw [if_pos ho] at hf
    refine ⟨ho, ?_⟩
    refine G.iconst (v := (0 : Int32)) dX13_rounds_0 (by decide) ?_
    refine G.istore_n (lv' := [(2, .int (0 : Int32)), (0, .ref a0), (1, .int a1)]) dX13_rounds_1 (by decide) rfl ?_
    refine G.aload_n dX13_rounds_2 rfl ?_
    refine G.getr flX13_57 dX13_rounds_3 hf (fun r1 hf => ?_)
    refine G.iconst (v := (0 : Int32)) dX13_rounds_6 (by decide) ?_
    refine G.iconst (v := (0 : Int32)) dX13_rounds_7 (by decide) ?_
    refine G.iast dX13_rounds_8 hf (fun h2 hf => ?_)
    refine G.aload_n dX13_rounds_9 rfl ?_
    refine G.getr flX13_60 dX13_rounds_10 hf (fun r3 hf => ?_)
    refine G.iconst (v := (0 : Int32)) dX13_rounds_13 (by decide) ?_
    refine G.aload_n dX13_rounds_14 rfl ?_
    refine G.getr flX13_29 dX13_rounds_15 hf (fun r4 hf => ?_)
    refine G.bipush (v := (12 : Int32)) dX13_rounds_18 (by decide) ?_
    refine G.iload_n dX13_rounds_20 rfl ?_
    refine G.iadd dX13_rounds_21 ?_
    refine G.iald dX13_rounds_22 hf (fun x5 hf => ?_)
    refine G.iast dX13_rounds_23 hf (fun h6 hf => ?_)
    refine G.aload_n dX13_rounds_24 rfl ?_
    refine G.getr flX13_63 dX13_rounds_25 hf (fun r7 hf => ?_)
    refine G.iconst (v := (0 : Int32)) dX13_rounds_28 (by decide) ?_
    refine G.aload_n dX13_rounds_29 rfl ?_
    refine G.getr flX13_29 dX13_rounds_30 hf (fun r8 hf => ?_)
    refine G.bipush (v := (18 : Int32)) dX13_rounds_33 (by decide) ?_
    refine G.iload_n dX13_rounds_35 rfl ?_
    refine G.iadd dX13_rounds_36 ?_
    refine G.iald dX13_rounds_37 hf (fun x9 hf => ?_)
    refine G.iast dX13_rounds_38 hf (fun h10 hf => ?_)
    refine G.aload_n dX13_rounds_39 rfl ?_
    refine G.getr flX13_66 dX13_rounds_40 hf (fun r11 hf => ?_)
    refine G.iconst (v := (0 : Int32)) dX13_rounds_43 (by decide) ?_
    refine G.aload_n dX13_rounds_44 rfl ?_
    refine G.getr flX13_29 dX13_rounds_45 hf (fun r12 hf => ?_)
    refine G.bipush (v := (6 : Int32)) dX13_rounds_48 (by decide) ?_
    refine G.iload_n dX13_rounds_50 rfl ?_
    refine G.iadd dX13_rounds_51 ?_
    refine G.iald dX13_rounds_52 hf (fun x13 hf => ?_)
    refine G.iast dX13_rounds_53 hf (fun h14 hf => ?_)
    refine G.aload_n dX13_rounds_54 rfl ?_
    refine G.getr flX13_69 dX13_rounds_55 hf (fun r15 hf => ?_)
    refine G.iconst (v := (0 : Int32)) dX13_rounds_58 (by decide) ?_
    refine G.iconst (v := (0 : Int32)) dX13_rounds_59 (by decide) ?_
    refine G.iast dX13_rounds_60 hf (fun h16 hf => ?_)
    refine G.aload_n dX13_rounds_61 rfl ?_
    refine G.getr flX13_72 dX13_rounds_62 hf (fun r17 hf => ?_)
    refine G.iconst (v := (0 : Int32)) dX13_rounds_65 (by decide) ?_
    refine G.iconst (v := (0 : Int32)) dX13_rounds_66 (by decide) ?_
    refine G.iast dX13_rounds_67 hf (fun h18 hf => ?_)
    obtain ⟨h19, e20, hf⟩ := Option.bind_eq_some_iff.mp hf
    refine G.pick [1, 2, 0] rfl (l_X13_rounds_L68 X d _ _ 1000000 a0 a1 (0 : Int32) h18 h19 e20 ?_)
    have hq := Option.some.inj hf
    subst hq
    exact G.vret rfl dX13_rounds_332
  · rw [if_neg ho] at hf
    cases hf
/-! X13_round -/
theorem dX13_round_0 : decode cX13_round 0 = .ok (.aload_n 0, 1) := by decide +kernel
theorem dX13_round_1 : decode cX13_round 1 = .ok (.iload_n 1, 1) := by decide +kernel
theorem dX13_round_2 : decode cX13_round 2 = .ok (.invokevirtual 176, 3) := by decide +kernel
theorem dX13_round_5 : decode cX13_round 5 = .ok (.ifCond .ne 6, 3) := by decide +kernel
theorem dX13_round_8 : decode cX13_round 8 = .ok (.ldc 180, 2) := by decide +kernel
theorem dX13_round_10 : decode cX13_round 10 = .ok (.ireturn, 1) := by decide +kernel
theorem dX13_round_11 : decode cX13_round 11 = .ok (.iload_n 2, 1) := by decide +kernel
theorem dX13_round_12 : decode cX13_round 12 = .ok (.ifCond .eq 11, 3) := by decide +kernel
theorem dX13_round_15 : decode cX13_round 15 = .ok (.iload_n 2, 1) := by decide +kernel
theorem dX13_round_16 : decode cX13_round 16 = .ok (.iconst 1, 1) := by decide +kernel
theorem dX13_round_17 : decode cX13_round 17 = .ok (.if_icmp .eq 6, 3) := by decide +kernel
theorem dX13_round_20 : decode cX13_round 20 = .ok (.ldc 81, 2) := by decide +kernel
theorem dX13_round_22 : decode cX13_round 22 = .ok (.ireturn, 1) := by decide +kernel
theorem dX13_round_23 : decode cX13_round 23 = .ok (.aload_n 0, 1) := by decide +kernel
theorem dX13_round_24 : decode cX13_round 24 = .ok (.iconst 0, 1) := by decide +kernel
theorem dX13_round_25 : decode cX13_round 25 = .ok (.putfield 244, 3) := by decide +kernel
theorem dX13_round_28 : decode cX13_round 28 = .ok (.aload_n 0, 1) := by decide +kernel
theorem dX13_round_29 : decode cX13_round 29 = .ok (.iconst 0, 1) := by decide +kernel
theorem dX13_round_30 : decode cX13_round 30 = .ok (.putfield 247, 3) := by decide +kernel
theorem dX13_round_33 : decode cX13_round 33 = .ok (.aload_n 0, 1) := by decide +kernel
theorem dX13_round_34 : decode cX13_round 34 = .ok (.iload_n 1, 1) := by decide +kernel
theorem dX13_round_35 : decode cX13_round 35 = .ok (.invokevirtual 250, 3) := by decide +kernel
theorem dX13_round_38 : decode cX13_round 38 = .ok (.iload_n 2, 1) := by decide +kernel
theorem dX13_round_39 : decode cX13_round 39 = .ok (.ifCond .ne 10, 3) := by decide +kernel
theorem dX13_round_42 : decode cX13_round 42 = .ok (.aload_n 0, 1) := by decide +kernel
theorem dX13_round_43 : decode cX13_round 43 = .ok (.getfield 244, 3) := by decide +kernel
theorem dX13_round_46 : decode cX13_round 46 = .ok (.goto 7, 3) := by decide +kernel
theorem dX13_round_49 : decode cX13_round 49 = .ok (.aload_n 0, 1) := by decide +kernel
theorem dX13_round_50 : decode cX13_round 50 = .ok (.getfield 247, 3) := by decide +kernel
theorem dX13_round_53 : decode cX13_round 53 = .ok (.ireturn, 1) := by decide +kernel
def f_X13_round_23 (v0 : Nat) (v1 : Int32) (v2 : Int32) (h : AH) : Option (Int32 × AH) := (pf h 12 v0 30 (.int (0 : Int32))).bind fun h1 => (pf h1 12 v0 31 (.int (0 : Int32))).bind fun h2 => (f_X13_rounds v0 v1 h2).bind fun h3 => if v2 = 0 then ((gi h3 12 v0 30).bind fun x7 => some (x7, h3)) else ((gi h3 12 v0 31).bind fun x6 => some (x6, h3))
set_option maxRecDepth 100000 in
set_option maxHeartbeats 4000000 in
theorem j_X13_round_23 (X : SX) (d : Nat) (v0 : Nat) (v1 : Int32) (v2 : Int32) (h : AH) (rr : Int32) (h' : AH) (hf : f_X13_round_23 v0 v1 v2 h = some (rr, h')) : G X mX13_round (d + 3) 23 [(0, .ref v0), (1, .int v1), (2, .int v2)] [] h (some rr) h' := by
  unfold f_X13_round_23 at hf
  refine G.aload_n dX13_round_23 rfl ?_
  refine G.iconst (v := (0 : Int32)) dX13_round_24 (by decide) ?_
  refine G.put flX13_244 (Or.inl rfl) (fun _ _ => ⟨rfl, rfl⟩) dX13_round_25 hf (fun h1 hf => ?_)
  refine G.aload_n dX13_round_28 rfl ?_
  refine G.iconst (v := (0 : Int32)) dX13_round_29 (by decide) ?_
  refine G.put flX13_247 (Or.inl rfl) (fun _ _ => ⟨rfl, rfl⟩) dX13_round_30 hf (fun h2 hf => ?_)
  refine G.aload_n dX13_round_33 rfl ?_
  refine G.iload_n dX13_round_34 rfl ?_
  obtain ⟨h3, e4, hf⟩ := Option.bind_eq_some_iff.mp hf
  refine G.callVv (M' := mX13_rounds) (ci := 12) (As := [.int v1]) (st := []) okX13_rounds viX13_rounds lkX13_250 rfl rfl rfl (Nat.le_of_ble_eq_true rfl) (Nat.le_of_ble_eq_true rfl) dX13_round_35 (c_X13_rounds X d _ _ _ _ e4).1 (c_X13_rounds X d _ _ _ _ e4).2 ?_
  refine G.iload_n dX13_round_38 rfl ?_
  refine G.if_ne 49 dX13_round_39 (by decide) (fun c5 => ?_) (fun c5 => ?_)
  · rw [if_neg c5] at hf
    refine G.aload_n dX13_round_49 rfl ?_
    refine G.geti flX13_247 dX13_round_50 hf (fun x6 hf => ?_)
    obtain ⟨hq1, hq2⟩ := Prod.mk.inj (Option.some.inj hf)
    subst hq1
    subst hq2
    exact G.iret rfl rfl dX13_round_53
  · rw [if_pos c5] at hf
    refine G.aload_n dX13_round_42 rfl ?_
    refine G.geti flX13_244 dX13_round_43 hf (fun x7 hf => ?_)
    refine G.goto 53 dX13_round_46 (by decide) ?_
    obtain ⟨hq1, hq2⟩ := Prod.mk.inj (Option.some.inj hf)
    subst hq1
    subst hq2
    exact G.iret rfl rfl dX13_round_53
def f_X13_round (a0 : Nat) (a1 : Int32) (a2 : Int32) (h : AH) : Option (Int32 × AH) := if isO h 12 a0 = true then (bT1 (f_X13_isSinger a0 a1 h) fun x3 h1 => if x3 = 0 then (some ((-1000000001 : Int32), h1)) else (if a2 = 0 then (f_X13_round_23 a0 a1 a2 h1) else (if a2 = (1 : Int32) then (f_X13_round_23 a0 a1 a2 h1) else (some ((-1000000002 : Int32), h1))))) else none
set_option maxRecDepth 100000 in
set_option maxHeartbeats 4000000 in
theorem c_X13_round (X : SX) (d : Nat) (a0 : Nat) (a1 : Int32) (a2 : Int32) (h : AH) (rr : Int32) (h' : AH) (hf : f_X13_round a0 a1 a2 h = some (rr, h')) : isO h 12 a0 = true ∧ G X mX13_round (d + 3) 0 [(0, .ref a0), (1, .int a1), (2, .int a2)] [] h (some rr) h' := by
  unfold f_X13_round at hf
  by_cases ho : isO h 12 a0 = true
  · rw [if_pos ho] at hf
    refine ⟨ho, ?_⟩
    refine G.aload_n dX13_round_0 rfl ?_
    refine G.iload_n dX13_round_1 rfl ?_
    obtain ⟨x3, h1, e2, hf⟩ := bT1_spec hf
    refine G.callVi (M' := mX13_isSinger) (ci := 12) (As := [.int a1]) (st := []) okX13_isSinger viX13_isSinger lkX13_176 rfl rfl rfl (Nat.le_of_ble_eq_true rfl) (Nat.le_of_ble_eq_true rfl) dX13_round_2 (c_X13_isSinger X (d + 2) _ _ _ _ _ e2).1 (c_X13_isSinger X (d + 2) _ _ _ _ _ e2).2 ?_
    refine G.if_ne 11 dX13_round_5 (by decide) (fun c4 => ?_) (fun c4 => ?_)
    · rw [if_neg c4] at hf
      refine G.iload_n dX13_round_11 rfl ?_
      refine G.if_eq 23 dX13_round_12 (by decide) (fun c5 => ?_) (fun c5 => ?_)
      · rw [if_pos c5] at hf
        exact G.pick [0, 1, 2] rfl (j_X13_round_23 X d a0 a1 a2 h1 _ _ hf)
      · rw [if_neg c5] at hf
        refine G.iload_n dX13_round_15 rfl ?_
        refine G.iconst (v := (1 : Int32)) dX13_round_16 (by decide) ?_
        refine G.icmp_eq 23 dX13_round_17 (by decide) (fun c6 => ?_) (fun c6 => ?_)
        · rw [if_pos c6] at hf
          exact G.pick [0, 1, 2] rfl (j_X13_round_23 X d a0 a1 a2 h1 _ _ hf)
        · rw [if_neg c6] at hf
          refine G.ldc ckX13_81 dX13_round_20 ?_
          obtain ⟨hq1, hq2⟩ := Prod.mk.inj (Option.some.inj hf)
          subst hq1
          subst hq2
          exact G.iret rfl rfl dX13_round_22
    · rw [if_pos c4] at hf
      refine G.ldc ckX13_180 dX13_round_8 ?_
      obtain ⟨hq1, hq2⟩ := Prod.mk.inj (Option.some.inj hf)
      subst hq1
      subst hq2
      exact G.iret rfl rfl dX13_round_10
  · rw [if_neg ho] at hf
    cases hf
/-! X12_colic -/
theorem dX12_colic_0 : decode cX12_colic 0 = .ok (.iload_n 1, 1) := by decide +kernel
theorem dX12_colic_1 : decode cX12_colic 1 = .ok (.ifCond .lt 19, 3) := by decide +kernel
theorem dX12_colic_4 : decode cX12_colic 4 = .ok (.iload_n 1, 1) := by decide +kernel
theorem dX12_colic_5 : decode cX12_colic 5 = .ok (.bipush 60, 2) := by decide +kernel
theorem dX12_colic_7 : decode cX12_colic 7 = .ok (.if_icmp .gt 13, 3) := by decide +kernel
theorem dX12_colic_10 : decode cX12_colic 10 = .ok (.iload_n 2, 1) := by decide +kernel
theorem dX12_colic_11 : decode cX12_colic 11 = .ok (.ifCond .lt 9, 3) := by decide +kernel
theorem dX12_colic_14 : decode cX12_colic 14 = .ok (.iload_n 2, 1) := by decide +kernel
theorem dX12_colic_15 : decode cX12_colic 15 = .ok (.bipush 100, 2) := by decide +kernel
theorem dX12_colic_17 : decode cX12_colic 17 = .ok (.if_icmp .le 6, 3) := by decide +kernel
theorem dX12_colic_20 : decode cX12_colic 20 = .ok (.ldc 72, 2) := by decide +kernel
theorem dX12_colic_22 : decode cX12_colic 22 = .ok (.ireturn, 1) := by decide +kernel
theorem dX12_colic_23 : decode cX12_colic 23 = .ok (.ldc2_w 285, 3) := by decide +kernel
theorem dX12_colic_26 : decode cX12_colic 26 = .ok (.lstore_n 3, 1) := by decide +kernel
theorem dX12_colic_27 : decode cX12_colic 27 = .ok (.iconst 0, 1) := by decide +kernel
theorem dX12_colic_28 : decode cX12_colic 28 = .ok (.istore 5, 2) := by decide +kernel
theorem dX12_colic_30 : decode cX12_colic 30 = .ok (.iload 5, 2) := by decide +kernel
theorem dX12_colic_32 : decode cX12_colic 32 = .ok (.iload_n 1, 1) := by decide +kernel
theorem dX12_colic_33 : decode cX12_colic 33 = .ok (.if_icmp .ge 18, 3) := by decide +kernel
theorem dX12_colic_36 : decode cX12_colic 36 = .ok (.lload_n 3, 1) := by decide +kernel
theorem dX12_colic_37 : decode cX12_colic 37 = .ok (.iload_n 2, 1) := by decide +kernel
theorem dX12_colic_38 : decode cX12_colic 38 = .ok (.i2l, 1) := by decide +kernel
theorem dX12_colic_39 : decode cX12_colic 39 = .ok (.lmul, 1) := by decide +kernel
theorem dX12_colic_40 : decode cX12_colic 40 = .ok (.ldc2_w 287, 3) := by decide +kernel
theorem dX12_colic_43 : decode cX12_colic 43 = .ok (.ldiv, 1) := by decide +kernel
theorem dX12_colic_44 : decode cX12_colic 44 = .ok (.lstore_n 3, 1) := by decide +kernel
theorem dX12_colic_45 : decode cX12_colic 45 = .ok (.iinc 5 1, 3) := by decide +kernel
theorem dX12_colic_48 : decode cX12_colic 48 = .ok (.goto (-18), 3) := by decide +kernel
theorem dX12_colic_51 : decode cX12_colic 51 = .ok (.lload_n 3, 1) := by decide +kernel
theorem dX12_colic_52 : decode cX12_colic 52 = .ok (.l2i, 1) := by decide +kernel
theorem dX12_colic_53 : decode cX12_colic 53 = .ok (.ireturn, 1) := by decide +kernel
def F_X12_colic_L30 (rec : Int32 → Int32 → Int64 → Int32 → AH → Option (Int64 × AH)) (v1 : Int32) (v2 : Int32) (v3 : Int64) (v5 : Int32) (h : AH) : Option (Int64 × AH) := if v1 ≤ v5 then (some (v3, h)) else (rec v1 v2 ((v3 * (Int32.toInt64 v2)) / (100 : Int64)) (v5 + 1) h)
def f_X12_colic_L30 : Nat → Int32 → Int32 → Int64 → Int32 → AH → Option (Int64 × AH)
  | 0 => fun _ _ _ _ _ => none
  | n + 1 => F_X12_colic_L30 (f_X12_colic_L30 n)
set_option maxRecDepth 100000 in
set_option maxHeartbeats 4000000 in
theorem lx_X12_colic_L30 (X : SX) (d : Nat) : ∀ n (rv : Option Int32) (h' : AH), ∀ (v1 : Int32) (v2 : Int32) (v3 : Int64) (v5 : Int32) (h : AH) (y3 : Int64) (h1 : AH), f_X12_colic_L30 n v1 v2 v3 v5 h = some (y3, h1) → G X mX12_colic d 51 [(3, .long y3)] [] h1 rv h' → G X mX12_colic d 30 [(1, .int v1), (2, .int v2), (3, .long v3), (5, .int v5)] [] h rv h' := by
  intro n
  induction n with
  | zero =>
    intro rv h' v1 v2 v3 v5 h y3 h1 hf hE
    cases hf
  | succ n ihf =>
    intro rv h' v1 v2 v3 v5 h y3 h1 hf hE
    replace hf : F_X12_colic_L30 (f_X12_colic_L30 n) v1 v2 v3 v5 h = some (y3, h1) := hf
    unfold F_X12_colic_L30 at hf
    have ih := ihf rv h'
    refine G.iload dX12_colic_30 rfl ?_
    refine G.iload_n dX12_colic_32 rfl ?_
    refine G.icmp_ge 51 dX12_colic_33 (by decide) (fun c1 => ?_) (fun c1 => ?_)
    · rw [if_pos c1] at hf
      obtain ⟨u0, w1⟩ := Prod.mk.inj (Option.some.inj hf)
      subst u0
      subst w1
      exact G.pick [2] rfl hE
    · rw [if_neg c1] at hf
      refine G.lload_n dX12_colic_36 rfl ?_
      refine G.iload_n dX12_colic_37 rfl ?_
      refine G.i2l dX12_colic_38 ?_
      refine G.lmul dX12_colic_39 ?_
      refine G.ldc2 ckX12_287 dX12_colic_40 ?_
      refine G.ldiv dX12_colic_43 (by decide) ?_
      refine G.lstore_n (lv' := [(3, .long ((v3 * (Int32.toInt64 v2)) / (100 : Int64))), (1, .int v1), (2, .int v2), (5, .int v5)]) dX12_colic_44 (by decide) rfl ?_
      refine G.iinc (v := (v5 + 1)) (lv' := [(5, .int (v5 + 1)), (3, .long ((v3 * (Int32.toInt64 v2)) / (100 : Int64))), (1, .int v1), (2, .int v2)]) dX12_colic_45 rfl rfl (by decide) rfl ?_
      refine G.goto 30 dX12_colic_48 (by decide) ?_
      exact G.pick [2, 3, 1, 0] rfl (ih v1 v2 ((v3 * (Int32.toInt64 v2)) / (100 : Int64)) (v5 + 1) h _ _ hf hE)
theorem l_X12_colic_L30 (X : SX) (d : Nat) (rv : Option Int32) (h' : AH) (n : Nat) : ∀ (v1 : Int32) (v2 : Int32) (v3 : Int64) (v5 : Int32) (h : AH) (y3 : Int64) (h1 : AH), f_X12_colic_L30 n v1 v2 v3 v5 h = some (y3, h1) → G X mX12_colic d 51 [(3, .long y3)] [] h1 rv h' → G X mX12_colic d 30 [(1, .int v1), (2, .int v2), (3, .long v3), (5, .int v5)] [] h rv h' := lx_X12_colic_L30 X d n rv h'
def f_X12_colic (a0 : Nat) (a1 : Int32) (a2 : Int32) (h : AH) : Option (Int32 × AH) := if isO h 11 a0 = true then (if a1 < 0 then (some ((-1000000002 : Int32), h)) else (if (60 : Int32) < a1 then (some ((-1000000002 : Int32), h)) else (if a2 < 0 then (some ((-1000000002 : Int32), h)) else (if a2 ≤ (100 : Int32) then (bT1 (f_X12_colic_L30 1000000 a1 a2 (1000000000 : Int64) (0 : Int32) h) fun y7 h5 => some ((Int64.toInt32 y7), h5)) else (some ((-1000000002 : Int32), h)))))) else none
set_option maxRecDepth 100000 in
set_option maxHeartbeats 4000000 in
theorem c_X12_colic (X : SX) (d : Nat) (a0 : Nat) (a1 : Int32) (a2 : Int32) (h : AH) (rr : Int32) (h' : AH) (hf : f_X12_colic a0 a1 a2 h = some (rr, h')) : isO h 11 a0 = true ∧ G X mX12_colic d 0 [(0, .ref a0), (1, .int a1), (2, .int a2)] [] h (some rr) h' := by
  unfold f_X12_colic at hf
  by_cases ho : isO h 11 a0 = true
  · rw [if_pos ho] at hf
    refine ⟨ho, ?_⟩
    refine G.iload_n dX12_colic_0 rfl ?_
    refine G.if_lt 20 dX12_colic_1 (by decide) (fun c1 => ?_) (fun c1 => ?_)
    · rw [if_pos c1] at hf
      refine G.ldc ckX12_72 dX12_colic_20 ?_
      obtain ⟨hq1, hq2⟩ := Prod.mk.inj (Option.some.inj hf)
      subst hq1
      subst hq2
      exact G.iret rfl rfl dX12_colic_22
    · rw [if_neg c1] at hf
      refine G.iload_n dX12_colic_4 rfl ?_
      refine G.bipush (v := (60 : Int32)) dX12_colic_5 (by decide) ?_
      refine G.icmp_gt 20 dX12_colic_7 (by decide) (fun c2 => ?_) (fun c2 => ?_)
      · rw [if_pos c2] at hf
        refine G.ldc ckX12_72 dX12_colic_20 ?_
        obtain ⟨hq1, hq2⟩ := Prod.mk.inj (Option.some.inj hf)
        subst hq1
        subst hq2
        exact G.iret rfl rfl dX12_colic_22
      · rw [if_neg c2] at hf
        refine G.iload_n dX12_colic_10 rfl ?_
        refine G.if_lt 20 dX12_colic_11 (by decide) (fun c3 => ?_) (fun c3 => ?_)
        · rw [if_pos c3] at hf
          refine G.ldc ckX12_72 dX12_colic_20 ?_
          obtain ⟨hq1, hq2⟩ := Prod.mk.inj (Option.some.inj hf)
          subst hq1
          subst hq2
          exact G.iret rfl rfl dX12_colic_22
        · rw [if_neg c3] at hf
          refine G.iload_n dX12_colic_14 rfl ?_
          refine G.bipush (v := (100 : Int32)) dX12_colic_15 (by decide) ?_
          refine G.icmp_le 23 dX12_colic_17 (by decide) (fun c4 => ?_) (fun c4 => ?_)
          · rw [if_pos c4] at hf
            refine G.ldc2 ckX12_285 dX12_colic_23 ?_
            refine G.lstore_n (lv' := [(3, .long (1000000000 : Int64)), (0, .ref a0), (1, .int a1), (2, .int a2)]) dX12_colic_26 (by decide) rfl ?_
            refine G.iconst (v := (0 : Int32)) dX12_colic_27 (by decide) ?_
            refine G.istore (lv' := [(5, .int (0 : Int32)), (3, .long (1000000000 : Int64)), (0, .ref a0), (1, .int a1), (2, .int a2)]) dX12_colic_28 (by decide) rfl ?_
            obtain ⟨y7, h5, e6, hf⟩ := bT1_spec hf
            refine G.pick [3, 4, 1, 0] rfl (l_X12_colic_L30 X d _ _ 1000000 a1 a2 (1000000000 : Int64) (0 : Int32) h y7 h5 e6 ?_)
            refine G.lload_n dX12_colic_51 rfl ?_
            refine G.l2i dX12_colic_52 ?_
            obtain ⟨hq1, hq2⟩ := Prod.mk.inj (Option.some.inj hf)
            subst hq1
            subst hq2
            exact G.iret rfl rfl dX12_colic_53
          · rw [if_neg c4] at hf
            refine G.ldc ckX12_72 dX12_colic_20 ?_
            obtain ⟨hq1, hq2⟩ := Prod.mk.inj (Option.some.inj hf)
            subst hq1
            subst hq2
            exact G.iret rfl rfl dX12_colic_22
  · rw [if_neg ho] at hf
    cases hf
/-! X13_colic -/
theorem dX13_colic_0 : decode cX13_colic 0 = .ok (.iload_n 1, 1) := by decide +kernel
theorem dX13_colic_1 : decode cX13_colic 1 = .ok (.ifCond .lt 19, 3) := by decide +kernel
theorem dX13_colic_4 : decode cX13_colic 4 = .ok (.iload_n 1, 1) := by decide +kernel
theorem dX13_colic_5 : decode cX13_colic 5 = .ok (.bipush 60, 2) := by decide +kernel
theorem dX13_colic_7 : decode cX13_colic 7 = .ok (.if_icmp .gt 13, 3) := by decide +kernel
theorem dX13_colic_10 : decode cX13_colic 10 = .ok (.iload_n 2, 1) := by decide +kernel
theorem dX13_colic_11 : decode cX13_colic 11 = .ok (.ifCond .lt 9, 3) := by decide +kernel
theorem dX13_colic_14 : decode cX13_colic 14 = .ok (.iload_n 2, 1) := by decide +kernel
theorem dX13_colic_15 : decode cX13_colic 15 = .ok (.bipush 100, 2) := by decide +kernel
theorem dX13_colic_17 : decode cX13_colic 17 = .ok (.if_icmp .le 6, 3) := by decide +kernel
theorem dX13_colic_20 : decode cX13_colic 20 = .ok (.ldc 81, 2) := by decide +kernel
theorem dX13_colic_22 : decode cX13_colic 22 = .ok (.ireturn, 1) := by decide +kernel
theorem dX13_colic_23 : decode cX13_colic 23 = .ok (.ldc2_w 254, 3) := by decide +kernel
theorem dX13_colic_26 : decode cX13_colic 26 = .ok (.lstore_n 3, 1) := by decide +kernel
theorem dX13_colic_27 : decode cX13_colic 27 = .ok (.iconst 0, 1) := by decide +kernel
theorem dX13_colic_28 : decode cX13_colic 28 = .ok (.istore 5, 2) := by decide +kernel
theorem dX13_colic_30 : decode cX13_colic 30 = .ok (.iload 5, 2) := by decide +kernel
theorem dX13_colic_32 : decode cX13_colic 32 = .ok (.iload_n 1, 1) := by decide +kernel
theorem dX13_colic_33 : decode cX13_colic 33 = .ok (.if_icmp .ge 18, 3) := by decide +kernel
theorem dX13_colic_36 : decode cX13_colic 36 = .ok (.lload_n 3, 1) := by decide +kernel
theorem dX13_colic_37 : decode cX13_colic 37 = .ok (.iload_n 2, 1) := by decide +kernel
theorem dX13_colic_38 : decode cX13_colic 38 = .ok (.i2l, 1) := by decide +kernel
theorem dX13_colic_39 : decode cX13_colic 39 = .ok (.lmul, 1) := by decide +kernel
theorem dX13_colic_40 : decode cX13_colic 40 = .ok (.ldc2_w 256, 3) := by decide +kernel
theorem dX13_colic_43 : decode cX13_colic 43 = .ok (.ldiv, 1) := by decide +kernel
theorem dX13_colic_44 : decode cX13_colic 44 = .ok (.lstore_n 3, 1) := by decide +kernel
theorem dX13_colic_45 : decode cX13_colic 45 = .ok (.iinc 5 1, 3) := by decide +kernel
theorem dX13_colic_48 : decode cX13_colic 48 = .ok (.goto (-18), 3) := by decide +kernel
theorem dX13_colic_51 : decode cX13_colic 51 = .ok (.lload_n 3, 1) := by decide +kernel
theorem dX13_colic_52 : decode cX13_colic 52 = .ok (.l2i, 1) := by decide +kernel
theorem dX13_colic_53 : decode cX13_colic 53 = .ok (.ireturn, 1) := by decide +kernel
def F_X13_colic_L30 (rec : Int32 → Int32 → Int64 → Int32 → AH → Option (Int64 × AH)) (v1 : Int32) (v2 : Int32) (v3 : Int64) (v5 : Int32) (h : AH) : Option (Int64 × AH) := if v1 ≤ v5 then (some (v3, h)) else (rec v1 v2 ((v3 * (Int32.toInt64 v2)) / (100 : Int64)) (v5 + 1) h)
def f_X13_colic_L30 : Nat → Int32 → Int32 → Int64 → Int32 → AH → Option (Int64 × AH)
  | 0 => fun _ _ _ _ _ => none
  | n + 1 => F_X13_colic_L30 (f_X13_colic_L30 n)
set_option maxRecDepth 100000 in
set_option maxHeartbeats 4000000 in
theorem lx_X13_colic_L30 (X : SX) (d : Nat) : ∀ n (rv : Option Int32) (h' : AH), ∀ (v1 : Int32) (v2 : Int32) (v3 : Int64) (v5 : Int32) (h : AH) (y3 : Int64) (h1 : AH), f_X13_colic_L30 n v1 v2 v3 v5 h = some (y3, h1) → G X mX13_colic d 51 [(3, .long y3)] [] h1 rv h' → G X mX13_colic d 30 [(1, .int v1), (2, .int v2), (3, .long v3), (5, .int v5)] [] h rv h' := by
  intro n
  induction n with
  | zero =>
    intro rv h' v1 v2 v3 v5 h y3 h1 hf hE
    cases hf
  | succ n ihf =>
    intro rv h' v1 v2 v3 v5 h y3 h1 hf hE
    replace hf : F_X13_colic_L30 (f_X13_colic_L30 n) v1 v2 v3 v5 h = some (y3, h1) := hf
    unfold F_X13_colic_L30 at hf
    have ih := ihf rv h'
    refine G.iload dX13_colic_30 rfl ?_
    refine G.iload_n dX13_colic_32 rfl ?_
    refine G.icmp_ge 51 dX13_colic_33 (by decide) (fun c1 => ?_) (fun c1 => ?_)
    · rw [if_pos c1] at hf
      obtain ⟨u0, w1⟩ := Prod.mk.inj (Option.some.inj hf)
      subst u0
      subst w1
      exact G.pick [2] rfl hE
    · rw [if_neg c1] at hf
      refine G.lload_n dX13_colic_36 rfl ?_
      refine G.iload_n dX13_colic_37 rfl ?_
      refine G.i2l dX13_colic_38 ?_
      refine G.lmul dX13_colic_39 ?_
      refine G.ldc2 ckX13_256 dX13_colic_40 ?_
      refine G.ldiv dX13_colic_43 (by decide) ?_
      refine G.lstore_n (lv' := [(3, .long ((v3 * (Int32.toInt64 v2)) / (100 : Int64))), (1, .int v1), (2, .int v2), (5, .int v5)]) dX13_colic_44 (by decide) rfl ?_
      refine G.iinc (v := (v5 + 1)) (lv' := [(5, .int (v5 + 1)), (3, .long ((v3 * (Int32.toInt64 v2)) / (100 : Int64))), (1, .int v1), (2, .int v2)]) dX13_colic_45 rfl rfl (by decide) rfl ?_
      refine G.goto 30 dX13_colic_48 (by decide) ?_
      exact G.pick [2, 3, 1, 0] rfl (ih v1 v2 ((v3 * (Int32.toInt64 v2)) / (100 : Int64)) (v5 + 1) h _ _ hf hE)
theorem l_X13_colic_L30 (X : SX) (d : Nat) (rv : Option Int32) (h' : AH) (n : Nat) : ∀ (v1 : Int32) (v2 : Int32) (v3 : Int64) (v5 : Int32) (h : AH) (y3 : Int64) (h1 : AH), f_X13_colic_L30 n v1 v2 v3 v5 h = some (y3, h1) → G X mX13_colic d 51 [(3, .long y3)] [] h1 rv h' → G X mX13_colic d 30 [(1, .int v1), (2, .int v2), (3, .long v3), (5, .int v5)] [] h rv h' := lx_X13_colic_L30 X d n rv h'
def f_X13_colic (a0 : Nat) (a1 : Int32) (a2 : Int32) (h : AH) : Option (Int32 × AH) := if isO h 12 a0 = true then (if a1 < 0 then (some ((-1000000002 : Int32), h)) else (if (60 : Int32) < a1 then (some ((-1000000002 : Int32), h)) else (if a2 < 0 then (some ((-1000000002 : Int32), h)) else (if a2 ≤ (100 : Int32) then (bT1 (f_X13_colic_L30 1000000 a1 a2 (1000000000 : Int64) (0 : Int32) h) fun y7 h5 => some ((Int64.toInt32 y7), h5)) else (some ((-1000000002 : Int32), h)))))) else none
set_option maxRecDepth 100000 in
set_option maxHeartbeats 4000000 in
theorem c_X13_colic (X : SX) (d : Nat) (a0 : Nat) (a1 : Int32) (a2 : Int32) (h : AH) (rr : Int32) (h' : AH) (hf : f_X13_colic a0 a1 a2 h = some (rr, h')) : isO h 12 a0 = true ∧ G X mX13_colic d 0 [(0, .ref a0), (1, .int a1), (2, .int a2)] [] h (some rr) h' := by
  unfold f_X13_colic at hf
  by_cases ho : isO h 12 a0 = true
  · rw [if_pos ho] at hf
    refine ⟨ho, ?_⟩
    refine G.iload_n dX13_colic_0 rfl ?_
    refine G.if_lt 20 dX13_colic_1 (by decide) (fun c1 => ?_) (fun c1 => ?_)
    · rw [if_pos c1] at hf
      refine G.ldc ckX13_81 dX13_colic_20 ?_
      obtain ⟨hq1, hq2⟩ := Prod.mk.inj (Option.some.inj hf)
      subst hq1
      subst hq2
      exact G.iret rfl rfl dX13_colic_22
    · rw [if_neg c1] at hf
      refine G.iload_n dX13_colic_4 rfl ?_
      refine G.bipush (v := (60 : Int32)) dX13_colic_5 (by decide) ?_
      refine G.icmp_gt 20 dX13_colic_7 (by decide) (fun c2 => ?_) (fun c2 => ?_)
      · rw [if_pos c2] at hf
        refine G.ldc ckX13_81 dX13_colic_20 ?_
        obtain ⟨hq1, hq2⟩ := Prod.mk.inj (Option.some.inj hf)
        subst hq1
        subst hq2
        exact G.iret rfl rfl dX13_colic_22
      · rw [if_neg c2] at hf
        refine G.iload_n dX13_colic_10 rfl ?_
        refine G.if_lt 20 dX13_colic_11 (by decide) (fun c3 => ?_) (fun c3 => ?_)
        · rw [if_pos c3] at hf
          refine G.ldc ckX13_81 dX13_colic_20 ?_
          obtain ⟨hq1, hq2⟩ := Prod.mk.inj (Option.some.inj hf)
          subst hq1
          subst hq2
          exact G.iret rfl rfl dX13_colic_22
        · rw [if_neg c3] at hf
          refine G.iload_n dX13_colic_14 rfl ?_
          refine G.bipush (v := (100 : Int32)) dX13_colic_15 (by decide) ?_
          refine G.icmp_le 23 dX13_colic_17 (by decide) (fun c4 => ?_) (fun c4 => ?_)
          · rw [if_pos c4] at hf
            refine G.ldc2 ckX13_254 dX13_colic_23 ?_
            refine G.lstore_n (lv' := [(3, .long (1000000000 : Int64)), (0, .ref a0), (1, .int a1), (2, .int a2)]) dX13_colic_26 (by decide) rfl ?_
            refine G.iconst (v := (0 : Int32)) dX13_colic_27 (by decide) ?_
            refine G.istore (lv' := [(5, .int (0 : Int32)), (3, .long (1000000000 : Int64)), (0, .ref a0), (1, .int a1), (2, .int a2)]) dX13_colic_28 (by decide) rfl ?_
            obtain ⟨y7, h5, e6, hf⟩ := bT1_spec hf
            refine G.pick [3, 4, 1, 0] rfl (l_X13_colic_L30 X d _ _ 1000000 a1 a2 (1000000000 : Int64) (0 : Int32) h y7 h5 e6 ?_)
            refine G.lload_n dX13_colic_51 rfl ?_
            refine G.l2i dX13_colic_52 ?_
            obtain ⟨hq1, hq2⟩ := Prod.mk.inj (Option.some.inj hf)
            subst hq1
            subst hq2
            exact G.iret rfl rfl dX13_colic_53
          · rw [if_neg c4] at hf
            refine G.ldc ckX13_81 dX13_colic_20 ?_
            obtain ⟨hq1, hq2⟩ := Prod.mk.inj (Option.some.inj hf)
            subst hq1
            subst hq2
            exact G.iret rfl rfl dX13_colic_22
  · rw [if_neg ho] at hf
    cases hf
/-! X11_add -/
theorem dX11_add_0 : decode cX11_add 0 = .ok (.aload_n 0, 1) := by decide +kernel
theorem dX11_add_1 : decode cX11_add 1 = .ok (.getfield 19, 3) := by decide +kernel
theorem dX11_add_4 : decode cX11_add 4 = .ok (.bipush 6, 2) := by decide +kernel
theorem dX11_add_6 : decode cX11_add 6 = .ok (.if_icmp .ge 33, 3) := by decide +kernel
theorem dX11_add_9 : decode cX11_add 9 = .ok (.aload_n 0, 1) := by decide +kernel
theorem dX11_add_10 : decode cX11_add 10 = .ok (.getfield 9, 3) := by decide +kernel
theorem dX11_add_13 : decode cX11_add 13 = .ok (.aload_n 0, 1) := by decide +kernel
theorem dX11_add_14 : decode cX11_add 14 = .ok (.getfield 19, 3) := by decide +kernel
theorem dX11_add_17 : decode cX11_add 17 = .ok (.iload_n 1, 1) := by decide +kernel
theorem dX11_add_18 : decode cX11_add 18 = .ok (.iastore, 1) := by decide +kernel
theorem dX11_add_19 : decode cX11_add 19 = .ok (.aload_n 0, 1) := by decide +kernel
theorem dX11_add_20 : decode cX11_add 20 = .ok (.getfield 15, 3) := by decide +kernel
theorem dX11_add_23 : decode cX11_add 23 = .ok (.aload_n 0, 1) := by decide +kernel
theorem dX11_add_24 : decode cX11_add 24 = .ok (.getfield 19, 3) := by decide +kernel
theorem dX11_add_27 : decode cX11_add 27 = .ok (.iload_n 2, 1) := by decide +kernel
theorem dX11_add_28 : decode cX11_add 28 = .ok (.bastore, 1) := by decide +kernel
theorem dX11_add_29 : decode cX11_add 29 = .ok (.aload_n 0, 1) := by decide +kernel
theorem dX11_add_30 : decode cX11_add 30 = .ok (.dup, 1) := by decide +kernel
theorem dX11_add_31 : decode cX11_add 31 = .ok (.getfield 19, 3) := by decide +kernel
theorem dX11_add_34 : decode cX11_add 34 = .ok (.iconst 1, 1) := by decide +kernel
theorem dX11_add_35 : decode cX11_add 35 = .ok (.iadd, 1) := by decide +kernel
theorem dX11_add_36 : decode cX11_add 36 = .ok (.putfield 19, 3) := by decide +kernel
theorem dX11_add_39 : decode cX11_add 39 = .ok (.return_, 1) := by decide +kernel
def f_X11_add (a0 : Nat) (a1 : Int32) (a2 : Int32) (h : AH) : Option (AH) := if isO h 10 a0 = true then ((gi h 10 a0 2).bind fun x1 => if (6 : Int32) ≤ x1 then (some h) else ((gr h 10 a0 0).bind fun r3 => (gi h 10 a0 2).bind fun x4 => (aw h 0 r3 x4 a1).bind fun h5 => (gr h5 10 a0 1).bind fun r6 => (gi h5 10 a0 2).bind fun x7 => (aw h5 2 r6 x7 (vp_nar .boolean a2)).bind fun h8 => (gi h8 10 a0 2).bind fun x9 => (pf h8 10 a0 2 (.int (x9 + (1 : Int32)))).bind fun h10 => some h10)) else none
set_option maxRecDepth 100000 in
set_option maxHeartbeats 4000000 in
theorem c_X11_add (X : SX) (d : Nat) (a0 : Nat) (a1 : Int32) (a2 : Int32) (h : AH) (h' : AH) (hf : f_X11_add a0 a1 a2 h = some h') : isO h 10 a0 = true ∧ G X mX11_add d 0 [(0, .ref a0), (1, .int a1), (2, .int a2)] [] h none h' := by
  unfold f_X11_add at hf
  by_cases ho : isO h 10 a0 = true
  · rw [if_pos ho] at hf
    refine ⟨ho, ?_⟩
    refine G.aload_n dX11_add_0 rfl ?_
    refine G.geti flX11_19 dX11_add_1 hf (fun x1 hf => ?_)
    refine G.bipush (v := (6 : Int32)) dX11_add_4 (by decide) ?_
    refine G.icmp_ge 39 dX11_add_6 (by decide) (fun c2 => ?_) (fun c2 => ?_)
    · rw [if_pos c2] at hf
      have hq := Option.some.inj hf
      subst hq
      exact G.vret rfl dX11_add_39
    · rw [if_neg c2] at hf
      refine G.aload_n dX11_add_9 rfl ?_
      refine G.getr flX11_9 dX11_add_10 hf (fun r3 hf => ?_)
      refine G.aload_n dX11_add_13 rfl ?_
      refine G.geti flX11_19 dX11_add_14 hf (fun x4 hf => ?_)
      refine G.iload_n dX11_add_17 rfl ?_
      refine G.iast dX11_add_18 hf (fun h5 hf => ?_)
      refine G.aload_n dX11_add_19 rfl ?_
      refine G.getr flX11_15 dX11_add_20 hf (fun r6 hf => ?_)
      refine G.aload_n dX11_add_23 rfl ?_
      refine G.geti flX11_19 dX11_add_24 hf (fun x7 hf => ?_)
      refine G.iload_n dX11_add_27 rfl ?_
      refine G.zast dX11_add_28 hf (fun h8 hf => ?_)
      refine G.aload_n dX11_add_29 rfl ?_
      refine G.dup dX11_add_30 rfl ?_
      refine G.geti flX11_19 dX11_add_31 hf (fun x9 hf => ?_)
      refine G.iconst (v := (1 : Int32)) dX11_add_34 (by decide) ?_
      refine G.iadd dX11_add_35 ?_
      refine G.put flX11_19 (Or.inl rfl) (fun _ _ => ⟨rfl, rfl⟩) dX11_add_36 hf (fun h10 hf => ?_)
      have hq := Option.some.inj hf
      subst hq
      exact G.vret rfl dX11_add_39
  · rw [if_neg ho] at hf
    cases hf
/-! X12_owed -/
theorem dX12_owed_0 : decode cX12_owed 0 = .ok (.iload_n 1, 1) := by decide +kernel
theorem dX12_owed_1 : decode cX12_owed 1 = .ok (.ifCond .lt 10, 3) := by decide +kernel
theorem dX12_owed_4 : decode cX12_owed 4 = .ok (.iload_n 1, 1) := by decide +kernel
theorem dX12_owed_5 : decode cX12_owed 5 = .ok (.sipush 198, 3) := by decide +kernel
theorem dX12_owed_8 : decode cX12_owed 8 = .ok (.if_icmp .le 6, 3) := by decide +kernel
theorem dX12_owed_11 : decode cX12_owed 11 = .ok (.ldc 72, 2) := by decide +kernel
theorem dX12_owed_13 : decode cX12_owed 13 = .ok (.ireturn, 1) := by decide +kernel
theorem dX12_owed_14 : decode cX12_owed 14 = .ok (.aload_n 0, 1) := by decide +kernel
theorem dX12_owed_15 : decode cX12_owed 15 = .ok (.getfield 47, 3) := by decide +kernel
theorem dX12_owed_18 : decode cX12_owed 18 = .ok (.getfield 161, 3) := by decide +kernel
theorem dX12_owed_21 : decode cX12_owed 21 = .ok (.bipush 6, 2) := by decide +kernel
theorem dX12_owed_23 : decode cX12_owed 23 = .ok (.if_icmp .lt 6, 3) := by decide +kernel
theorem dX12_owed_26 : decode cX12_owed 26 = .ok (.ldc 77, 2) := by decide +kernel
theorem dX12_owed_28 : decode cX12_owed 28 = .ok (.ireturn, 1) := by decide +kernel
theorem dX12_owed_29 : decode cX12_owed 29 = .ok (.aload_n 0, 1) := by decide +kernel
theorem dX12_owed_30 : decode cX12_owed 30 = .ok (.getfield 47, 3) := by decide +kernel
theorem dX12_owed_33 : decode cX12_owed 33 = .ok (.iload_n 1, 1) := by decide +kernel
theorem dX12_owed_34 : decode cX12_owed 34 = .ok (.iload_n 2, 1) := by decide +kernel
theorem dX12_owed_35 : decode cX12_owed 35 = .ok (.invokevirtual 289, 3) := by decide +kernel
theorem dX12_owed_38 : decode cX12_owed 38 = .ok (.aload_n 0, 1) := by decide +kernel
theorem dX12_owed_39 : decode cX12_owed 39 = .ok (.getfield 47, 3) := by decide +kernel
theorem dX12_owed_42 : decode cX12_owed 42 = .ok (.getfield 161, 3) := by decide +kernel
theorem dX12_owed_45 : decode cX12_owed 45 = .ok (.ireturn, 1) := by decide +kernel
def f_X12_owed (a0 : Nat) (a1 : Int32) (a2 : Int32) (h : AH) : Option (Int32 × AH) := if isO h 11 a0 = true then (if a1 < 0 then (some ((-1000000002 : Int32), h)) else (if a1 ≤ (198 : Int32) then ((gr h 11 a0 5).bind fun r3 => (gi h 10 r3 2).bind fun x4 => if x4 < (6 : Int32) then ((gr h 11 a0 5).bind fun r6 => (f_X11_add r6 a1 a2 h).bind fun h7 => (gr h7 11 a0 5).bind fun r9 => (gi h7 10 r9 2).bind fun x10 => some (x10, h7)) else (some ((-1000000004 : Int32), h))) else (some ((-1000000002 : Int32), h)))) else none
set_option maxRecDepth 100000 in
set_option maxHeartbeats 4000000 in
theorem c_X12_owed (X : SX) (d : Nat) (a0 : Nat) (a1 : Int32) (a2 : Int32) (h : AH) (rr : Int32) (h' : AH) (hf : f_X12_owed a0 a1 a2 h = some (rr, h')) : isO h 11 a0 = true ∧ G X mX12_owed (d + 1) 0 [(0, .ref a0), (1, .int a1), (2, .int a2)] [] h (some rr) h' := by
  unfold f_X12_owed at hf
  by_cases ho : isO h 11 a0 = true
  · rw [if_pos ho] at hf
    refine ⟨ho, ?_⟩
    refine G.iload_n dX12_owed_0 rfl ?_
    refine G.if_lt 11 dX12_owed_1 (by decide) (fun c1 => ?_) (fun c1 => ?_)
    · rw [if_pos c1] at hf
      refine G.ldc ckX12_72 dX12_owed_11 ?_
      obtain ⟨hq1, hq2⟩ := Prod.mk.inj (Option.some.inj hf)
      subst hq1
      subst hq2
      exact G.iret rfl rfl dX12_owed_13
    · rw [if_neg c1] at hf
      refine G.iload_n dX12_owed_4 rfl ?_
      refine G.sipush (v := (198 : Int32)) dX12_owed_5 (by decide) ?_
      refine G.icmp_le 14 dX12_owed_8 (by decide) (fun c2 => ?_) (fun c2 => ?_)
      · rw [if_pos c2] at hf
        refine G.aload_n dX12_owed_14 rfl ?_
        refine G.getr flX12_47 dX12_owed_15 hf (fun r3 hf => ?_)
        refine G.geti flX12_161 dX12_owed_18 hf (fun x4 hf => ?_)
        refine G.bipush (v := (6 : Int32)) dX12_owed_21 (by decide) ?_
        refine G.icmp_lt 29 dX12_owed_23 (by decide) (fun c5 => ?_) (fun c5 => ?_)
        · rw [if_pos c5] at hf
          refine G.aload_n dX12_owed_29 rfl ?_
          refine G.getr flX12_47 dX12_owed_30 hf (fun r6 hf => ?_)
          refine G.iload_n dX12_owed_33 rfl ?_
          refine G.iload_n dX12_owed_34 rfl ?_
          obtain ⟨h7, e8, hf⟩ := Option.bind_eq_some_iff.mp hf
          refine G.callVv (M' := mX11_add) (ci := 10) (As := [.int a1, .int a2]) (st := []) okX11_add viX11_add lkX12_289 rfl rfl rfl (Nat.le_of_ble_eq_true rfl) (Nat.le_of_ble_eq_true rfl) dX12_owed_35 (c_X11_add X d _ _ _ _ _ e8).1 (c_X11_add X d _ _ _ _ _ e8).2 ?_
          refine G.aload_n dX12_owed_38 rfl ?_
          refine G.getr flX12_47 dX12_owed_39 hf (fun r9 hf => ?_)
          refine G.geti flX12_161 dX12_owed_42 hf (fun x10 hf => ?_)
          obtain ⟨hq1, hq2⟩ := Prod.mk.inj (Option.some.inj hf)
          subst hq1
          subst hq2
          exact G.iret rfl rfl dX12_owed_45
        · rw [if_neg c5] at hf
          refine G.ldc ckX12_77 dX12_owed_26 ?_
          obtain ⟨hq1, hq2⟩ := Prod.mk.inj (Option.some.inj hf)
          subst hq1
          subst hq2
          exact G.iret rfl rfl dX12_owed_28
      · rw [if_neg c2] at hf
        refine G.ldc ckX12_72 dX12_owed_11 ?_
        obtain ⟨hq1, hq2⟩ := Prod.mk.inj (Option.some.inj hf)
        subst hq1
        subst hq2
        exact G.iret rfl rfl dX12_owed_13
  · rw [if_neg ho] at hf
    cases hf
/-! X13_owed -/
theorem dX13_owed_0 : decode cX13_owed 0 = .ok (.iload_n 1, 1) := by decide +kernel
theorem dX13_owed_1 : decode cX13_owed 1 = .ok (.ifCond .lt 10, 3) := by decide +kernel
theorem dX13_owed_4 : decode cX13_owed 4 = .ok (.iload_n 1, 1) := by decide +kernel
theorem dX13_owed_5 : decode cX13_owed 5 = .ok (.sipush 198, 3) := by decide +kernel
theorem dX13_owed_8 : decode cX13_owed 8 = .ok (.if_icmp .le 6, 3) := by decide +kernel
theorem dX13_owed_11 : decode cX13_owed 11 = .ok (.ldc 81, 2) := by decide +kernel
theorem dX13_owed_13 : decode cX13_owed 13 = .ok (.ireturn, 1) := by decide +kernel
theorem dX13_owed_14 : decode cX13_owed 14 = .ok (.aload_n 0, 1) := by decide +kernel
theorem dX13_owed_15 : decode cX13_owed 15 = .ok (.getfield 132, 3) := by decide +kernel
theorem dX13_owed_18 : decode cX13_owed 18 = .ok (.bipush 6, 2) := by decide +kernel
theorem dX13_owed_20 : decode cX13_owed 20 = .ok (.if_icmp .ne 6, 3) := by decide +kernel
theorem dX13_owed_23 : decode cX13_owed 23 = .ok (.ldc 85, 2) := by decide +kernel
theorem dX13_owed_25 : decode cX13_owed 25 = .ok (.ireturn, 1) := by decide +kernel
theorem dX13_owed_26 : decode cX13_owed 26 = .ok (.aload_n 0, 1) := by decide +kernel
theorem dX13_owed_27 : decode cX13_owed 27 = .ok (.getfield 45, 3) := by decide +kernel
theorem dX13_owed_30 : decode cX13_owed 30 = .ok (.iconst 2, 1) := by decide +kernel
theorem dX13_owed_31 : decode cX13_owed 31 = .ok (.aload_n 0, 1) := by decide +kernel
theorem dX13_owed_32 : decode cX13_owed 32 = .ok (.getfield 132, 3) := by decide +kernel
theorem dX13_owed_35 : decode cX13_owed 35 = .ok (.imul, 1) := by decide +kernel
theorem dX13_owed_36 : decode cX13_owed 36 = .ok (.iload_n 1, 1) := by decide +kernel
theorem dX13_owed_37 : decode cX13_owed 37 = .ok (.iastore, 1) := by decide +kernel
theorem dX13_owed_38 : decode cX13_owed 38 = .ok (.aload_n 0, 1) := by decide +kernel
theorem dX13_owed_39 : decode cX13_owed 39 = .ok (.getfield 45, 3) := by decide +kernel
theorem dX13_owed_42 : decode cX13_owed 42 = .ok (.iconst 2, 1) := by decide +kernel
theorem dX13_owed_43 : decode cX13_owed 43 = .ok (.aload_n 0, 1) := by decide +kernel
theorem dX13_owed_44 : decode cX13_owed 44 = .ok (.getfield 132, 3) := by decide +kernel
theorem dX13_owed_47 : decode cX13_owed 47 = .ok (.imul, 1) := by decide +kernel
theorem dX13_owed_48 : decode cX13_owed 48 = .ok (.iconst 1, 1) := by decide +kernel
theorem dX13_owed_49 : decode cX13_owed 49 = .ok (.iadd, 1) := by decide +kernel
theorem dX13_owed_50 : decode cX13_owed 50 = .ok (.iload_n 2, 1) := by decide +kernel
theorem dX13_owed_51 : decode cX13_owed 51 = .ok (.ifCond .eq 7, 3) := by decide +kernel
theorem dX13_owed_54 : decode cX13_owed 54 = .ok (.iconst 1, 1) := by decide +kernel
theorem dX13_owed_55 : decode cX13_owed 55 = .ok (.goto 4, 3) := by decide +kernel
theorem dX13_owed_58 : decode cX13_owed 58 = .ok (.iconst 0, 1) := by decide +kernel
theorem dX13_owed_59 : decode cX13_owed 59 = .ok (.iastore, 1) := by decide +kernel
theorem dX13_owed_60 : decode cX13_owed 60 = .ok (.aload_n 0, 1) := by decide +kernel
theorem dX13_owed_61 : decode cX13_owed 61 = .ok (.dup, 1) := by decide +kernel
theorem dX13_owed_62 : decode cX13_owed 62 = .ok (.getfield 132, 3) := by decide +kernel
theorem dX13_owed_65 : decode cX13_owed 65 = .ok (.iconst 1, 1) := by decide +kernel
theorem dX13_owed_66 : decode cX13_owed 66 = .ok (.iadd, 1) := by decide +kernel
theorem dX13_owed_67 : decode cX13_owed 67 = .ok (.putfield 132, 3) := by decide +kernel
theorem dX13_owed_70 : decode cX13_owed 70 = .ok (.aload_n 0, 1) := by decide +kernel
theorem dX13_owed_71 : decode cX13_owed 71 = .ok (.getfield 132, 3) := by decide +kernel
theorem dX13_owed_74 : decode cX13_owed 74 = .ok (.ireturn, 1) := by decide +kernel
def f_X13_owed_59 (v0 : Nat) (s0 : Int32) (s1 : Int32) (s2 : Nat) (h : AH) : Option (Int32 × AH) := (aw h 0 s2 s1 s0).bind fun h1 => (gi h1 12 v0 19).bind fun x2 => (pf h1 12 v0 19 (.int (x2 + (1 : Int32)))).bind fun h3 => (gi h3 12 v0 19).bind fun x4 => some (x4, h3)
set_option maxRecDepth 100000 in
set_option maxHeartbeats 4000000 in
theorem j_X13_owed_59 (X : SX) (d : Nat) (v0 : Nat) (s0 : Int32) (s1 : Int32) (s2 : Nat) (h : AH) (rr : Int32) (h' : AH) (hf : f_X13_owed_59 v0 s0 s1 s2 h = some (rr, h')) : G X mX13_owed d 59 [(0, .ref v0)] [.int s0, .int s1, .ref s2] h (some rr) h' := by
  unfold f_X13_owed_59 at hf
  refine G.iast dX13_owed_59 hf (fun h1 hf => ?_)
  refine G.aload_n dX13_owed_60 rfl ?_
  refine G.dup dX13_owed_61 rfl ?_
  refine G.geti flX13_132 dX13_owed_62 hf (fun x2 hf => ?_)
  refine G.iconst (v := (1 : Int32)) dX13_owed_65 (by decide) ?_
  refine G.iadd dX13_owed_66 ?_
  refine G.put flX13_132 (Or.inl rfl) (fun _ _ => ⟨rfl, rfl⟩) dX13_owed_67 hf (fun h3 hf => ?_)
  refine G.aload_n dX13_owed_70 rfl ?_
  refine G.geti flX13_132 dX13_owed_71 hf (fun x4 hf => ?_)
  obtain ⟨hq1, hq2⟩ := Prod.mk.inj (Option.some.inj hf)
  subst hq1
  subst hq2
  exact G.iret rfl rfl dX13_owed_74
def f_X13_owed (a0 : Nat) (a1 : Int32) (a2 : Int32) (h : AH) : Option (Int32 × AH) := if isO h 12 a0 = true then (if a1 < 0 then (some ((-1000000002 : Int32), h)) else (if a1 ≤ (198 : Int32) then ((gi h 12 a0 19).bind fun x3 => if x3 = (6 : Int32) then (some ((-1000000004 : Int32), h)) else ((gr h 12 a0 18).bind fun r5 => (gi h 12 a0 19).bind fun x6 => (aw h 0 r5 ((2 : Int32) * x6) a1).bind fun h7 => (gr h7 12 a0 18).bind fun r8 => (gi h7 12 a0 19).bind fun x9 => if a2 = 0 then (f_X13_owed_59 a0 (0 : Int32) (((2 : Int32) * x9) + (1 : Int32)) r8 h7) else (f_X13_owed_59 a0 (1 : Int32) (((2 : Int32) * x9) + (1 : Int32)) r8 h7))) else (some ((-1000000002 : Int32), h)))) else none
set_option maxRecDepth 100000 in
set_option maxHeartbeats 4000000 in
theorem c_X13_owed (X : SX) (d : Nat) (a0 : Nat) (a1 : Int32) (a2 : Int32) (h : AH) (rr : Int32) (h' : AH) (hf : f_X13_owed a0 a1 a2 h = some (rr, h')) : isO h 12 a0 = true ∧ G X mX13_owed d 0 [(0, .ref a0), (1, .int a1), (2, .int a2)] [] h (some rr) h' := by
  unfold f_X13_owed at hf
  by_cases ho : isO h 12 a0 = true
  · rw [if_pos ho] at hf
    refine ⟨ho, ?_⟩
    refine G.iload_n dX13_owed_0 rfl ?_
    refine G.if_lt 11 dX13_owed_1 (by decide) (fun c1 => ?_) (fun c1 => ?_)
    · rw [if_pos c1] at hf
      refine G.ldc ckX13_81 dX13_owed_11 ?_
      obtain ⟨hq1, hq2⟩ := Prod.mk.inj (Option.some.inj hf)
      subst hq1
      subst hq2
      exact G.iret rfl rfl dX13_owed_13
    · rw [if_neg c1] at hf
      refine G.iload_n dX13_owed_4 rfl ?_
      refine G.sipush (v := (198 : Int32)) dX13_owed_5 (by decide) ?_
      refine G.icmp_le 14 dX13_owed_8 (by decide) (fun c2 => ?_) (fun c2 => ?_)
      · rw [if_pos c2] at hf
        refine G.aload_n dX13_owed_14 rfl ?_
        refine G.geti flX13_132 dX13_owed_15 hf (fun x3 hf => ?_)
        refine G.bipush (v := (6 : Int32)) dX13_owed_18 (by decide) ?_
        refine G.icmp_ne 26 dX13_owed_20 (by decide) (fun c4 => ?_) (fun c4 => ?_)
        · rw [if_neg c4] at hf
          refine G.aload_n dX13_owed_26 rfl ?_
          refine G.getr flX13_45 dX13_owed_27 hf (fun r5 hf => ?_)
          refine G.iconst (v := (2 : Int32)) dX13_owed_30 (by decide) ?_
          refine G.aload_n dX13_owed_31 rfl ?_
          refine G.geti flX13_132 dX13_owed_32 hf (fun x6 hf => ?_)
          refine G.imul dX13_owed_35 ?_
          refine G.iload_n dX13_owed_36 rfl ?_
          refine G.iast dX13_owed_37 hf (fun h7 hf => ?_)
          refine G.aload_n dX13_owed_38 rfl ?_
          refine G.getr flX13_45 dX13_owed_39 hf (fun r8 hf => ?_)
          refine G.iconst (v := (2 : Int32)) dX13_owed_42 (by decide) ?_
          refine G.aload_n dX13_owed_43 rfl ?_
          refine G.geti flX13_132 dX13_owed_44 hf (fun x9 hf => ?_)
          refine G.imul dX13_owed_47 ?_
          refine G.iconst (v := (1 : Int32)) dX13_owed_48 (by decide) ?_
          refine G.iadd dX13_owed_49 ?_
          refine G.iload_n dX13_owed_50 rfl ?_
          refine G.if_eq 58 dX13_owed_51 (by decide) (fun c10 => ?_) (fun c10 => ?_)
          · rw [if_pos c10] at hf
            refine G.iconst (v := (0 : Int32)) dX13_owed_58 (by decide) ?_
            exact G.pick [0] rfl (j_X13_owed_59 X d a0 (0 : Int32) (((2 : Int32) * x9) + (1 : Int32)) r8 h7 _ _ hf)
          · rw [if_neg c10] at hf
            refine G.iconst (v := (1 : Int32)) dX13_owed_54 (by decide) ?_
            refine G.goto 59 dX13_owed_55 (by decide) ?_
            exact G.pick [0] rfl (j_X13_owed_59 X d a0 (1 : Int32) (((2 : Int32) * x9) + (1 : Int32)) r8 h7 _ _ hf)
        · rw [if_pos c4] at hf
          refine G.ldc ckX13_85 dX13_owed_23 ?_
          obtain ⟨hq1, hq2⟩ := Prod.mk.inj (Option.some.inj hf)
          subst hq1
          subst hq2
          exact G.iret rfl rfl dX13_owed_25
      · rw [if_neg c2] at hf
        refine G.ldc ckX13_81 dX13_owed_11 ?_
        obtain ⟨hq1, hq2⟩ := Prod.mk.inj (Option.some.inj hf)
        subst hq1
        subst hq2
        exact G.iret rfl rfl dX13_owed_13
  · rw [if_neg ho] at hf
    cases hf
/-! X11_allFit -/
theorem dX11_allFit_0 : decode cX11_allFit 0 = .ok (.iconst 0, 1) := by decide +kernel
theorem dX11_allFit_1 : decode cX11_allFit 1 = .ok (.istore_n 2, 1) := by decide +kernel
theorem dX11_allFit_2 : decode cX11_allFit 2 = .ok (.iload_n 2, 1) := by decide +kernel
theorem dX11_allFit_3 : decode cX11_allFit 3 = .ok (.aload_n 0, 1) := by decide +kernel
theorem dX11_allFit_4 : decode cX11_allFit 4 = .ok (.getfield 19, 3) := by decide +kernel
theorem dX11_allFit_7 : decode cX11_allFit 7 = .ok (.if_icmp .ge 35, 3) := by decide +kernel
theorem dX11_allFit_10 : decode cX11_allFit 10 = .ok (.iload_n 1, 1) := by decide +kernel
theorem dX11_allFit_11 : decode cX11_allFit 11 = .ok (.aload_n 0, 1) := by decide +kernel
theorem dX11_allFit_12 : decode cX11_allFit 12 = .ok (.getfield 9, 3) := by decide +kernel
theorem dX11_allFit_15 : decode cX11_allFit 15 = .ok (.iload_n 2, 1) := by decide +kernel
theorem dX11_allFit_16 : decode cX11_allFit 16 = .ok (.iaload, 1) := by decide +kernel
theorem dX11_allFit_17 : decode cX11_allFit 17 = .ok (.if_icmp .lt 7, 3) := by decide +kernel
theorem dX11_allFit_20 : decode cX11_allFit 20 = .ok (.iconst 1, 1) := by decide +kernel
theorem dX11_allFit_21 : decode cX11_allFit 21 = .ok (.goto 4, 3) := by decide +kernel
theorem dX11_allFit_24 : decode cX11_allFit 24 = .ok (.iconst 0, 1) := by decide +kernel
theorem dX11_allFit_25 : decode cX11_allFit 25 = .ok (.aload_n 0, 1) := by decide +kernel
theorem dX11_allFit_26 : decode cX11_allFit 26 = .ok (.getfield 15, 3) := by decide +kernel
theorem dX11_allFit_29 : decode cX11_allFit 29 = .ok (.iload_n 2, 1) := by decide +kernel
theorem dX11_allFit_30 : decode cX11_allFit 30 = .ok (.baload, 1) := by decide +kernel
theorem dX11_allFit_31 : decode cX11_allFit 31 = .ok (.if_icmp .eq 5, 3) := by decide +kernel
theorem dX11_allFit_34 : decode cX11_allFit 34 = .ok (.iconst 0, 1) := by decide +kernel
theorem dX11_allFit_35 : decode cX11_allFit 35 = .ok (.ireturn, 1) := by decide +kernel
theorem dX11_allFit_36 : decode cX11_allFit 36 = .ok (.iinc 2 1, 3) := by decide +kernel
theorem dX11_allFit_39 : decode cX11_allFit 39 = .ok (.goto (-37), 3) := by decide +kernel
theorem dX11_allFit_42 : decode cX11_allFit 42 = .ok (.iconst 1, 1) := by decide +kernel
theorem dX11_allFit_43 : decode cX11_allFit 43 = .ok (.ireturn, 1) := by decide +kernel
def f_X11_allFit_25 (rec : Nat → Int32 → Int32 → AH → Option ((Int32 × AH) ⊕ AH)) (v0 : Nat) (v1 : Int32) (v2 : Int32) (s0 : Int32) (h : AH) : Option ((Int32 × AH) ⊕ AH) := (gr h 10 v0 1).bind fun r1 => (ai h 2 r1 v2).bind fun x2 => if s0 = x2 then (rec v0 v1 (v2 + 1) h) else (some (.inl ((0 : Int32), h)))
set_option maxRecDepth 100000 in
set_option maxHeartbeats 4000000 in
theorem j_X11_allFit_25 (X : SX) (d : Nat) (rec : Nat → Int32 → Int32 → AH → Option ((Int32 × AH) ⊕ AH)) (hrecf : ∀ (rv : Option Int32) (h' : AH), ∀ (v0 : Nat) (v1 : Int32) (v2 : Int32) (h : AH) (o : (Int32 × AH) ⊕ AH), rec v0 v1 v2 h = some o → PS o rv h' (fun h1 => G X mX11_allFit d 42 [] [] h1 rv h') → G X mX11_allFit d 2 [(0, .ref v0), (1, .int v1), (2, .int v2)] [] h rv h') (v0 : Nat) (v1 : Int32) (v2 : Int32) (s0 : Int32) (h : AH) (o : (Int32 × AH) ⊕ AH) (hf : f_X11_allFit_25 rec v0 v1 v2 s0 h = some o) (rv : Option Int32) (h' : AH) (hP : PS o rv h' (fun h1 => G X mX11_allFit d 42 [] [] h1 rv h')) : G X mX11_allFit d 25 [(0, .ref v0), (1, .int v1), (2, .int v2)] [.int s0] h rv h' := by
  unfold f_X11_allFit_25 at hf
  have hrec := hrecf rv h'
  refine G.aload_n dX11_allFit_25 rfl ?_
  refine G.getr flX11_15 dX11_allFit_26 hf (fun r1 hf => ?_)
  refine G.iload_n dX11_allFit_29 rfl ?_
  refine G.zald dX11_allFit_30 hf (fun x2 hf => ?_)
  refine G.icmp_eq 36 dX11_allFit_31 (by decide) (fun c3 => ?_) (fun c3 => ?_)
  · rw [if_pos c3] at hf
    refine G.iinc (v := (v2 + 1)) (lv' := [(2, .int (v2 + 1)), (0, .ref v0), (1, .int v1)]) dX11_allFit_36 rfl rfl (by decide) rfl ?_
    refine G.goto 2 dX11_allFit_39 (by decide) ?_
    exact G.pick [1, 2, 0] rfl (hrec v0 v1 (v2 + 1) h _ hf hP)
  · rw [if_neg c3] at hf
    refine G.iconst (v := (0 : Int32)) dX11_allFit_34 (by decide) ?_
    have hq := Option.some.inj hf
    subst hq
    obtain ⟨hq1, hq2⟩ := hP
    subst hq1
    subst hq2
    exact G.iret rfl (by decide) dX11_allFit_35
def F_X11_allFit_L2 (rec : Nat → Int32 → Int32 → AH → Option ((Int32 × AH) ⊕ AH)) (v0 : Nat) (v1 : Int32) (v2 : Int32) (h : AH) : Option ((Int32 × AH) ⊕ AH) := (gi h 10 v0 2).bind fun x1 => if x1 ≤ v2 then (some (.inr h)) else ((gr h 10 v0 0).bind fun r3 => (ai h 0 r3 v2).bind fun x4 => if v1 < x4 then (f_X11_allFit_25 rec v0 v1 v2 (0 : Int32) h) else (f_X11_allFit_25 rec v0 v1 v2 (1 : Int32) h))
def f_X11_allFit_L2 : Nat → Nat → Int32 → Int32 → AH → Option ((Int32 × AH) ⊕ AH)
  | 0 => fun _ _ _ _ => none
  | n + 1 => F_X11_allFit_L2 (f_X11_allFit_L2 n)
set_option maxRecDepth 100000 in
set_option maxHeartbeats 4000000 in
theorem lx_X11_allFit_L2 (X : SX) (d : Nat) : ∀ n (rv : Option Int32) (h' : AH), ∀ (v0 : Nat) (v1 : Int32) (v2 : Int32) (h : AH) (o : (Int32 × AH) ⊕ AH), f_X11_allFit_L2 n v0 v1 v2 h = some o → PS o rv h' (fun h1 => G X mX11_allFit d 42 [] [] h1 rv h') → G X mX11_allFit d 2 [(0, .ref v0), (1, .int v1), (2, .int v2)] [] h rv h' := by
  intro n
  induction n with
  | zero =>
    intro rv h' v0 v1 v2 h o hf hP
    cases hf
  | succ n ihf =>
    intro rv h' v0 v1 v2 h o hf hP
    replace hf : F_X11_allFit_L2 (f_X11_allFit_L2 n) v0 v1 v2 h = some o := hf
    unfold F_X11_allFit_L2 at hf
    have ih := ihf rv h'
    refine G.iload_n dX11_allFit_2 rfl ?_
    refine G.aload_n dX11_allFit_3 rfl ?_
    refine G.geti flX11_19 dX11_allFit_4 hf (fun x1 hf => ?_)
    refine G.icmp_ge 42 dX11_allFit_7 (by decide) (fun c2 => ?_) (fun c2 => ?_)
    · rw [if_pos c2] at hf
      have hq := Option.some.inj hf
      subst hq
      exact G.pick [] rfl hP
    · rw [if_neg c2] at hf
      refine G.iload_n dX11_allFit_10 rfl ?_
      refine G.aload_n dX11_allFit_11 rfl ?_
      refine G.getr flX11_9 dX11_allFit_12 hf (fun r3 hf => ?_)
      refine G.iload_n dX11_allFit_15 rfl ?_
      refine G.iald dX11_allFit_16 hf (fun x4 hf => ?_)
      refine G.icmp_lt 24 dX11_allFit_17 (by decide) (fun c5 => ?_) (fun c5 => ?_)
      · rw [if_pos c5] at hf
        refine G.iconst (v := (0 : Int32)) dX11_allFit_24 (by decide) ?_
        exact G.pick [0, 1, 2] rfl (j_X11_allFit_25 X d _ ihf v0 v1 v2 (0 : Int32) h _ hf _ _ hP)
      · rw [if_neg c5] at hf
        refine G.iconst (v := (1 : Int32)) dX11_allFit_20 (by decide) ?_
        refine G.goto 25 dX11_allFit_21 (by decide) ?_
        exact G.pick [0, 1, 2] rfl (j_X11_allFit_25 X d _ ihf v0 v1 v2 (1 : Int32) h _ hf _ _ hP)
theorem l_X11_allFit_L2 (X : SX) (d : Nat) (rv : Option Int32) (h' : AH) (n : Nat) : ∀ (v0 : Nat) (v1 : Int32) (v2 : Int32) (h : AH) (o : (Int32 × AH) ⊕ AH), f_X11_allFit_L2 n v0 v1 v2 h = some o → PS o rv h' (fun h1 => G X mX11_allFit d 42 [] [] h1 rv h') → G X mX11_allFit d 2 [(0, .ref v0), (1, .int v1), (2, .int v2)] [] h rv h' := lx_X11_allFit_L2 X d n rv h'
def f_X11_allFit (a0 : Nat) (a1 : Int32) (h : AH) : Option (Int32 × AH) := if isO h 10 a0 = true then (bS (f_X11_allFit_L2 1000000 a0 a1 (0 : Int32) h) (fun h1 => some ((1 : Int32), h1))) else none
set_option maxRecDepth 100000 in
set_option maxHeartbeats 4000000 in
theorem c_X11_allFit (X : SX) (d : Nat) (a0 : Nat) (a1 : Int32) (h : AH) (rr : Int32) (h' : AH) (hf : f_X11_allFit a0 a1 h = some (rr, h')) : isO h 10 a0 = true ∧ G X mX11_allFit d 0 [(0, .ref a0), (1, .int a1)] [] h (some rr) h' := by
  unfold f_X11_allFit at hf
  by_cases ho : isO h 10 a0 = true
  · rw [if_pos ho] at hf
    refine ⟨ho, ?_⟩
    refine G.iconst (v := (0 : Int32)) dX11_allFit_0 (by decide) ?_
    refine G.istore_n (lv' := [(2, .int (0 : Int32)), (0, .ref a0), (1, .int a1)]) dX11_allFit_1 (by decide) rfl ?_
    obtain ⟨o3, e2, hf⟩ := bS_spec hf
    refine G.pick [1, 2, 0] rfl (l_X11_allFit_L2 X d _ _ 1000000 a0 a1 (0 : Int32) h o3 e2 ?_)
    rcases o3 with ⟨x4, h5⟩ | h1
    · cases hf
      exact And.intro rfl rfl
    · replace hf : _ = some _ := hf
      show G _ _ _ _ _ _ _ _ _
      refine G.iconst (v := (1 : Int32)) dX11_allFit_42 (by decide) ?_
      obtain ⟨hq1, hq2⟩ := Prod.mk.inj (Option.some.inj hf)
      subst hq1
      subst hq2
      exact G.iret rfl (by decide) dX11_allFit_43
  · rw [if_neg ho] at hf
    cases hf
/-! X11_fitting -/
theorem dX11_fitting_0 : decode cX11_fitting 0 = .ok (.iconst 0, 1) := by decide +kernel
theorem dX11_fitting_1 : decode cX11_fitting 1 = .ok (.istore_n 2, 1) := by decide +kernel
theorem dX11_fitting_2 : decode cX11_fitting 2 = .ok (.iconst 0, 1) := by decide +kernel
theorem dX11_fitting_3 : decode cX11_fitting 3 = .ok (.istore_n 3, 1) := by decide +kernel
theorem dX11_fitting_4 : decode cX11_fitting 4 = .ok (.iload_n 3, 1) := by decide +kernel
theorem dX11_fitting_5 : decode cX11_fitting 5 = .ok (.aload_n 1, 1) := by decide +kernel
theorem dX11_fitting_6 : decode cX11_fitting 6 = .ok (.getfield 23, 3) := by decide +kernel
theorem dX11_fitting_9 : decode cX11_fitting 9 = .ok (.getfield 29, 3) := by decide +kernel
theorem dX11_fitting_12 : decode cX11_fitting 12 = .ok (.if_icmp .ge 31, 3) := by decide +kernel
theorem dX11_fitting_15 : decode cX11_fitting 15 = .ok (.aload_n 0, 1) := by decide +kernel
theorem dX11_fitting_16 : decode cX11_fitting 16 = .ok (.aload_n 1, 1) := by decide +kernel
theorem dX11_fitting_17 : decode cX11_fitting 17 = .ok (.getfield 34, 3) := by decide +kernel
theorem dX11_fitting_20 : decode cX11_fitting 20 = .ok (.getfield 38, 3) := by decide +kernel
theorem dX11_fitting_23 : decode cX11_fitting 23 = .ok (.iload_n 3, 1) := by decide +kernel
theorem dX11_fitting_24 : decode cX11_fitting 24 = .ok (.iaload, 1) := by decide +kernel
theorem dX11_fitting_25 : decode cX11_fitting 25 = .ok (.invokevirtual 43, 3) := by decide +kernel
theorem dX11_fitting_28 : decode cX11_fitting 28 = .ok (.ifCond .eq 9, 3) := by decide +kernel
theorem dX11_fitting_31 : decode cX11_fitting 31 = .ok (.iload_n 2, 1) := by decide +kernel
theorem dX11_fitting_32 : decode cX11_fitting 32 = .ok (.iconst 1, 1) := by decide +kernel
theorem dX11_fitting_33 : decode cX11_fitting 33 = .ok (.iload_n 3, 1) := by decide +kernel
theorem dX11_fitting_34 : decode cX11_fitting 34 = .ok (.ishl, 1) := by decide +kernel
theorem dX11_fitting_35 : decode cX11_fitting 35 = .ok (.ior, 1) := by decide +kernel
theorem dX11_fitting_36 : decode cX11_fitting 36 = .ok (.istore_n 2, 1) := by decide +kernel
theorem dX11_fitting_37 : decode cX11_fitting 37 = .ok (.iinc 3 1, 3) := by decide +kernel
theorem dX11_fitting_40 : decode cX11_fitting 40 = .ok (.goto (-36), 3) := by decide +kernel
theorem dX11_fitting_43 : decode cX11_fitting 43 = .ok (.iload_n 2, 1) := by decide +kernel
theorem dX11_fitting_44 : decode cX11_fitting 44 = .ok (.ireturn, 1) := by decide +kernel
def F_X11_fitting_L4 (rec : Nat → Nat → Int32 → Int32 → AH → Option (Int32 × AH)) (v0 : Nat) (v1 : Nat) (v2 : Int32) (v3 : Int32) (h : AH) : Option (Int32 × AH) := (gr h 3 v1 1).bind fun r1 => (gi h 9 r1 9).bind fun x2 => if x2 ≤ v3 then (some (v2, h)) else ((gr h 3 v1 0).bind fun r4 => (gr h 4 r4 1).bind fun r5 => (ai h 0 r5 v3).bind fun x6 => bT1 (f_X11_allFit v0 x6 h) fun x9 h7 => if x9 = 0 then (rec v0 v1 v2 (v3 + 1) h7) else (rec v0 v1 (v2 ||| ((1 : Int32) <<< (v3 &&& 31))) (v3 + 1) h7))
def f_X11_fitting_L4 : Nat → Nat → Nat → Int32 → Int32 → AH → Option (Int32 × AH)
  | 0 => fun _ _ _ _ _ => none
  | n + 1 => F_X11_fitting_L4 (f_X11_fitting_L4 n)
set_option maxRecDepth 100000 in
set_option maxHeartbeats 4000000 in
theorem lx_X11_fitting_L4 (X : SX) (d : Nat) : ∀ n (rv : Option Int32) (h' : AH), ∀ (v0 : Nat) (v1 : Nat) (v2 : Int32) (v3 : Int32) (h : AH) (y2 : Int32) (h1 : AH), f_X11_fitting_L4 n v0 v1 v2 v3 h = some (y2, h1) → G X mX11_fitting (d + 1) 43 [(2, .int y2)] [] h1 rv h' → G X mX11_fitting (d + 1) 4 [(0, .ref v0), (1, .ref v1), (2, .int v2), (3, .int v3)] [] h rv h' := by
  intro n
  induction n with
  | zero =>
    intro rv h' v0 v1 v2 v3 h y2 h1 hf hE
    cases hf
  | succ n ihf =>
    intro rv h' v0 v1 v2 v3 h y2 h1 hf hE
    replace hf : F_X11_fitting_L4 (f_X11_fitting_L4 n) v0 v1 v2 v3 h = some (y2, h1) := hf
    unfold F_X11_fitting_L4 at hf
    have ih := ihf rv h'
    refine G.iload_n dX11_fitting_4 rfl ?_
    refine G.aload_n dX11_fitting_5 rfl ?_
    refine G.getr flX11_23 dX11_fitting_6 hf (fun r1 hf => ?_)
    refine G.geti flX11_29 dX11_fitting_9 hf (fun x2 hf => ?_)
    refine G.icmp_ge 43 dX11_fitting_12 (by decide) (fun c3 => ?_) (fun c3 => ?_)
    · rw [if_pos c3] at hf
      obtain ⟨u0, w1⟩ := Prod.mk.inj (Option.some.inj hf)
      subst u0
      subst w1
      exact G.pick [2] rfl hE
    · rw [if_neg c3] at hf
      refine G.aload_n dX11_fitting_15 rfl ?_
      refine G.aload_n dX11_fitting_16 rfl ?_
      refine G.getr flX11_34 dX11_fitting_17 hf (fun r4 hf => ?_)
      refine G.getr flX11_38 dX11_fitting_20 hf (fun r5 hf => ?_)
      refine G.iload_n dX11_fitting_23 rfl ?_
      refine G.iald dX11_fitting_24 hf (fun x6 hf => ?_)
      obtain ⟨x9, h7, e8, hf⟩ := bT1_spec hf
      refine G.callVi (M' := mX11_allFit) (ci := 10) (As := [.int x6]) (st := []) okX11_allFit viX11_allFit lkX11_43 rfl rfl rfl (Nat.le_of_ble_eq_true rfl) (Nat.le_of_ble_eq_true rfl) dX11_fitting_25 (c_X11_allFit X d _ _ _ _ _ e8).1 (c_X11_allFit X d _ _ _ _ _ e8).2 ?_
      refine G.if_eq 37 dX11_fitting_28 (by decide) (fun c10 => ?_) (fun c10 => ?_)
      · rw [if_pos c10] at hf
        refine G.iinc (v := (v3 + 1)) (lv' := [(3, .int (v3 + 1)), (0, .ref v0), (1, .ref v1), (2, .int v2)]) dX11_fitting_37 rfl rfl (by decide) rfl ?_
        refine G.goto 4 dX11_fitting_40 (by decide) ?_
        exact G.pick [1, 2, 3, 0] rfl (ih v0 v1 v2 (v3 + 1) h7 _ _ hf hE)
      · rw [if_neg c10] at hf
        refine G.iload_n dX11_fitting_31 rfl ?_
        refine G.iconst (v := (1 : Int32)) dX11_fitting_32 (by decide) ?_
        refine G.iload_n dX11_fitting_33 rfl ?_
        refine G.ishl dX11_fitting_34 ?_
        refine G.ior dX11_fitting_35 ?_
        refine G.istore_n (lv' := [(2, .int (v2 ||| ((1 : Int32) <<< (v3 &&& 31)))), (0, .ref v0), (1, .ref v1), (3, .int v3)]) dX11_fitting_36 (by decide) rfl ?_
        refine G.iinc (v := (v3 + 1)) (lv' := [(3, .int (v3 + 1)), (2, .int (v2 ||| ((1 : Int32) <<< (v3 &&& 31)))), (0, .ref v0), (1, .ref v1)]) dX11_fitting_37 rfl rfl (by decide) rfl ?_
        refine G.goto 4 dX11_fitting_40 (by decide) ?_
        exact G.pick [2, 3, 1, 0] rfl (ih v0 v1 (v2 ||| ((1 : Int32) <<< (v3 &&& 31))) (v3 + 1) h7 _ _ hf hE)
theorem l_X11_fitting_L4 (X : SX) (d : Nat) (rv : Option Int32) (h' : AH) (n : Nat) : ∀ (v0 : Nat) (v1 : Nat) (v2 : Int32) (v3 : Int32) (h : AH) (y2 : Int32) (h1 : AH), f_X11_fitting_L4 n v0 v1 v2 v3 h = some (y2, h1) → G X mX11_fitting (d + 1) 43 [(2, .int y2)] [] h1 rv h' → G X mX11_fitting (d + 1) 4 [(0, .ref v0), (1, .ref v1), (2, .int v2), (3, .int v3)] [] h rv h' := lx_X11_fitting_L4 X d n rv h'
def f_X11_fitting (a0 : Nat) (a1 : Nat) (h : AH) : Option (Int32 × AH) := if isO h 10 a0 = true then (bT1 (f_X11_fitting_L4 1000000 a0 a1 (0 : Int32) (0 : Int32) h) fun y3 h1 => some (y3, h1)) else none
set_option maxRecDepth 100000 in
set_option maxHeartbeats 4000000 in
theorem c_X11_fitting (X : SX) (d : Nat) (a0 : Nat) (a1 : Nat) (h : AH) (rr : Int32) (h' : AH) (hf : f_X11_fitting a0 a1 h = some (rr, h')) : isO h 10 a0 = true ∧ G X mX11_fitting (d + 1) 0 [(0, .ref a0), (1, .ref a1)] [] h (some rr) h' := by
  unfold f_X11_fitting at hf
  by_cases ho : isO h 10 a0 = true
  · rw [if_pos ho] at hf
    refine ⟨ho, ?_⟩
    refine G.iconst (v := (0 : Int32)) dX11_fitting_0 (by decide) ?_
    refine G.istore_n (lv' := [(2, .int (0 : Int32)), (0, .ref a0), (1, .ref a1)]) dX11_fitting_1 (by decide) rfl ?_
    refine G.iconst (v := (0 : Int32)) dX11_fitting_2 (by decide) ?_
    refine G.istore_n (lv' := [(3, .int (0 : Int32)), (2, .int (0 : Int32)), (0, .ref a0), (1, .ref a1)]) dX11_fitting_3 (by decide) rfl ?_
    obtain ⟨y3, h1, e2, hf⟩ := bT1_spec hf
    refine G.pick [2, 3, 1, 0] rfl (l_X11_fitting_L4 X d _ _ 1000000 a0 a1 (0 : Int32) (0 : Int32) h y3 h1 e2 ?_)
    refine G.iload_n dX11_fitting_43 rfl ?_
    obtain ⟨hq1, hq2⟩ := Prod.mk.inj (Option.some.inj hf)
    subst hq1
    subst hq2
    exact G.iret rfl rfl dX11_fitting_44
  · rw [if_neg ho] at hf
    cases hf
/-! X12_couldBe -/
theorem dX12_couldBe_0 : decode cX12_couldBe 0 = .ok (.aload_n 0, 1) := by decide +kernel
theorem dX12_couldBe_1 : decode cX12_couldBe 1 = .ok (.getfield 47, 3) := by decide +kernel
theorem dX12_couldBe_4 : decode cX12_couldBe 4 = .ok (.aload_n 0, 1) := by decide +kernel
theorem dX12_couldBe_5 : decode cX12_couldBe 5 = .ok (.getfield 19, 3) := by decide +kernel
theorem dX12_couldBe_8 : decode cX12_couldBe 8 = .ok (.invokevirtual 292, 3) := by decide +kernel
theorem dX12_couldBe_11 : decode cX12_couldBe 11 = .ok (.ireturn, 1) := by decide +kernel
def f_X12_couldBe (a0 : Nat) (h : AH) : Option (Int32 × AH) := if isO h 11 a0 = true then ((gr h 11 a0 5).bind fun r1 => (gr h 11 a0 1).bind fun r2 => bT1 (f_X11_fitting r1 r2 h) fun x5 h3 => some (x5, h3)) else none
set_option maxRecDepth 100000 in
set_option maxHeartbeats 4000000 in
theorem c_X12_couldBe (X : SX) (d : Nat) (a0 : Nat) (h : AH) (rr : Int32) (h' : AH) (hf : f_X12_couldBe a0 h = some (rr, h')) : isO h 11 a0 = true ∧ G X mX12_couldBe (d + 2) 0 [(0, .ref a0)] [] h (some rr) h' := by
  unfold f_X12_couldBe at hf
  by_cases ho : isO h 11 a0 = true
  · rw [if_pos ho] at hf
    refine ⟨ho, ?_⟩
    refine G.aload_n dX12_couldBe_0 rfl ?_
    refine G.getr flX12_47 dX12_couldBe_1 hf (fun r1 hf => ?_)
    refine G.aload_n dX12_couldBe_4 rfl ?_
    refine G.getr flX12_19 dX12_couldBe_5 hf (fun r2 hf => ?_)
    obtain ⟨x5, h3, e4, hf⟩ := bT1_spec hf
    refine G.callVi (M' := mX11_fitting) (ci := 10) (As := [.ref r2]) (st := []) okX11_fitting viX11_fitting lkX12_292 rfl rfl rfl (Nat.le_of_ble_eq_true rfl) (Nat.le_of_ble_eq_true rfl) dX12_couldBe_8 (c_X11_fitting X d _ _ _ _ _ e4).1 (c_X11_fitting X d _ _ _ _ _ e4).2 ?_
    obtain ⟨hq1, hq2⟩ := Prod.mk.inj (Option.some.inj hf)
    subst hq1
    subst hq2
    exact G.iret rfl rfl dX12_couldBe_11
  · rw [if_neg ho] at hf
    cases hf
/-! X13_couldBe -/
theorem dX13_couldBe_0 : decode cX13_couldBe 0 = .ok (.iconst 0, 1) := by decide +kernel
theorem dX13_couldBe_1 : decode cX13_couldBe 1 = .ok (.istore_n 1, 1) := by decide +kernel
theorem dX13_couldBe_2 : decode cX13_couldBe 2 = .ok (.iconst 0, 1) := by decide +kernel
theorem dX13_couldBe_3 : decode cX13_couldBe 3 = .ok (.istore_n 2, 1) := by decide +kernel
theorem dX13_couldBe_4 : decode cX13_couldBe 4 = .ok (.iload_n 2, 1) := by decide +kernel
theorem dX13_couldBe_5 : decode cX13_couldBe 5 = .ok (.aload_n 0, 1) := by decide +kernel
theorem dX13_couldBe_6 : decode cX13_couldBe 6 = .ok (.getfield 75, 3) := by decide +kernel
theorem dX13_couldBe_9 : decode cX13_couldBe 9 = .ok (.if_icmp .ge 102, 3) := by decide +kernel
theorem dX13_couldBe_12 : decode cX13_couldBe 12 = .ok (.iconst 1, 1) := by decide +kernel
theorem dX13_couldBe_13 : decode cX13_couldBe 13 = .ok (.istore_n 3, 1) := by decide +kernel
theorem dX13_couldBe_14 : decode cX13_couldBe 14 = .ok (.iconst 0, 1) := by decide +kernel
theorem dX13_couldBe_15 : decode cX13_couldBe 15 = .ok (.istore 4, 2) := by decide +kernel
theorem dX13_couldBe_17 : decode cX13_couldBe 17 = .ok (.iload 4, 2) := by decide +kernel
theorem dX13_couldBe_19 : decode cX13_couldBe 19 = .ok (.aload_n 0, 1) := by decide +kernel
theorem dX13_couldBe_20 : decode cX13_couldBe 20 = .ok (.getfield 132, 3) := by decide +kernel
theorem dX13_couldBe_23 : decode cX13_couldBe 23 = .ok (.if_icmp .ge 68, 3) := by decide +kernel
theorem dX13_couldBe_26 : decode cX13_couldBe 26 = .ok (.iload_n 3, 1) := by decide +kernel
theorem dX13_couldBe_27 : decode cX13_couldBe 27 = .ok (.ifCond .eq 56, 3) := by decide +kernel
theorem dX13_couldBe_30 : decode cX13_couldBe 30 = .ok (.aload_n 0, 1) := by decide +kernel
theorem dX13_couldBe_31 : decode cX13_couldBe 31 = .ok (.getfield 29, 3) := by decide +kernel
theorem dX13_couldBe_34 : decode cX13_couldBe 34 = .ok (.bipush 6, 2) := by decide +kernel
theorem dX13_couldBe_36 : decode cX13_couldBe 36 = .ok (.iload_n 2, 1) := by decide +kernel
theorem dX13_couldBe_37 : decode cX13_couldBe 37 = .ok (.iadd, 1) := by decide +kernel
theorem dX13_couldBe_38 : decode cX13_couldBe 38 = .ok (.iaload, 1) := by decide +kernel
theorem dX13_couldBe_39 : decode cX13_couldBe 39 = .ok (.aload_n 0, 1) := by decide +kernel
theorem dX13_couldBe_40 : decode cX13_couldBe 40 = .ok (.getfield 45, 3) := by decide +kernel
theorem dX13_couldBe_43 : decode cX13_couldBe 43 = .ok (.iconst 2, 1) := by decide +kernel
theorem dX13_couldBe_44 : decode cX13_couldBe 44 = .ok (.iload 4, 2) := by decide +kernel
theorem dX13_couldBe_46 : decode cX13_couldBe 46 = .ok (.imul, 1) := by decide +kernel
theorem dX13_couldBe_47 : decode cX13_couldBe 47 = .ok (.iaload, 1) := by decide +kernel
theorem dX13_couldBe_48 : decode cX13_couldBe 48 = .ok (.if_icmp .lt 7, 3) := by decide +kernel
theorem dX13_couldBe_51 : decode cX13_couldBe 51 = .ok (.iconst 1, 1) := by decide +kernel
theorem dX13_couldBe_52 : decode cX13_couldBe 52 = .ok (.goto 4, 3) := by decide +kernel
theorem dX13_couldBe_55 : decode cX13_couldBe 55 = .ok (.iconst 0, 1) := by decide +kernel
theorem dX13_couldBe_56 : decode cX13_couldBe 56 = .ok (.aload_n 0, 1) := by decide +kernel
theorem dX13_couldBe_57 : decode cX13_couldBe 57 = .ok (.getfield 45, 3) := by decide +kernel
theorem dX13_couldBe_60 : decode cX13_couldBe 60 = .ok (.iconst 2, 1) := by decide +kernel
theorem dX13_couldBe_61 : decode cX13_couldBe 61 = .ok (.iload 4, 2) := by decide +kernel
theorem dX13_couldBe_63 : decode cX13_couldBe 63 = .ok (.imul, 1) := by decide +kernel
theorem dX13_couldBe_64 : decode cX13_couldBe 64 = .ok (.iconst 1, 1) := by decide +kernel
theorem dX13_couldBe_65 : decode cX13_couldBe 65 = .ok (.iadd, 1) := by decide +kernel
theorem dX13_couldBe_66 : decode cX13_couldBe 66 = .ok (.iaload, 1) := by decide +kernel
theorem dX13_couldBe_67 : decode cX13_couldBe 67 = .ok (.iconst 1, 1) := by decide +kernel
theorem dX13_couldBe_68 : decode cX13_couldBe 68 = .ok (.if_icmp .ne 7, 3) := by decide +kernel
theorem dX13_couldBe_71 : decode cX13_couldBe 71 = .ok (.iconst 1, 1) := by decide +kernel
theorem dX13_couldBe_72 : decode cX13_couldBe 72 = .ok (.goto 4, 3) := by decide +kernel
theorem dX13_couldBe_75 : decode cX13_couldBe 75 = .ok (.iconst 0, 1) := by decide +kernel
theorem dX13_couldBe_76 : decode cX13_couldBe 76 = .ok (.if_icmp .ne 7, 3) := by decide +kernel
theorem dX13_couldBe_79 : decode cX13_couldBe 79 = .ok (.iconst 1, 1) := by decide +kernel
theorem dX13_couldBe_80 : decode cX13_couldBe 80 = .ok (.goto 4, 3) := by decide +kernel
theorem dX13_couldBe_83 : decode cX13_couldBe 83 = .ok (.iconst 0, 1) := by decide +kernel
theorem dX13_couldBe_84 : decode cX13_couldBe 84 = .ok (.istore_n 3, 1) := by decide +kernel
theorem dX13_couldBe_85 : decode cX13_couldBe 85 = .ok (.iinc 4 1, 3) := by decide +kernel
theorem dX13_couldBe_88 : decode cX13_couldBe 88 = .ok (.goto (-71), 3) := by decide +kernel
theorem dX13_couldBe_91 : decode cX13_couldBe 91 = .ok (.iload_n 1, 1) := by decide +kernel
theorem dX13_couldBe_92 : decode cX13_couldBe 92 = .ok (.iload_n 3, 1) := by decide +kernel
theorem dX13_couldBe_93 : decode cX13_couldBe 93 = .ok (.ifCond .eq 9, 3) := by decide +kernel
theorem dX13_couldBe_96 : decode cX13_couldBe 96 = .ok (.iconst 1, 1) := by decide +kernel
theorem dX13_couldBe_97 : decode cX13_couldBe 97 = .ok (.iload_n 2, 1) := by decide +kernel
theorem dX13_couldBe_98 : decode cX13_couldBe 98 = .ok (.ishl, 1) := by decide +kernel
theorem dX13_couldBe_99 : decode cX13_couldBe 99 = .ok (.goto 4, 3) := by decide +kernel
theorem dX13_couldBe_102 : decode cX13_couldBe 102 = .ok (.iconst 0, 1) := by decide +kernel
theorem dX13_couldBe_103 : decode cX13_couldBe 103 = .ok (.ior, 1) := by decide +kernel
theorem dX13_couldBe_104 : decode cX13_couldBe 104 = .ok (.istore_n 1, 1) := by decide +kernel
theorem dX13_couldBe_105 : decode cX13_couldBe 105 = .ok (.iinc 2 1, 3) := by decide +kernel
theorem dX13_couldBe_108 : decode cX13_couldBe 108 = .ok (.goto (-104), 3) := by decide +kernel
theorem dX13_couldBe_111 : decode cX13_couldBe 111 = .ok (.iload_n 1, 1) := by decide +kernel
theorem dX13_couldBe_112 : decode cX13_couldBe 112 = .ok (.ireturn, 1) := by decide +kernel
def f_X13_couldBe_76 (rec : Nat → Int32 → Int32 → Int32 → Int32 → AH → Option (Int32 × AH)) (v0 : Nat) (v1 : Int32) (v2 : Int32) (v4 : Int32) (s0 : Int32) (s1 : Int32) (h : AH) : Option (Int32 × AH) := if s1 = s0 then (rec v0 v1 v2 (1 : Int32) (v4 + 1) h) else (rec v0 v1 v2 (0 : Int32) (v4 + 1) h)
set_option maxRecDepth 100000 in
set_option maxHeartbeats 4000000 in
theorem j_X13_couldBe_76 (X : SX) (d : Nat) (rec : Nat → Int32 → Int32 → Int32 → Int32 → AH → Option (Int32 × AH)) (hrecf : ∀ (rv : Option Int32) (h' : AH), ∀ (v0 : Nat) (v1 : Int32) (v2 : Int32) (v3 : Int32) (v4 : Int32) (h : AH) (y3 : Int32) (h1 : AH), rec v0 v1 v2 v3 v4 h = some (y3, h1) → G X mX13_couldBe d 91 [(0, .ref v0), (1, .int v1), (2, .int v2), (3, .int y3)] [] h1 rv h' → G X mX13_couldBe d 17 [(0, .ref v0), (1, .int v1), (2, .int v2), (3, .int v3), (4, .int v4)] [] h rv h') (v0 : Nat) (v1 : Int32) (v2 : Int32) (v4 : Int32) (s0 : Int32) (s1 : Int32) (h : AH) (y3 : Int32) (h1 : AH) (hf : f_X13_couldBe_76 rec v0 v1 v2 v4 s0 s1 h = some (y3, h1)) (rv : Option Int32) (h' : AH) (hE : G X mX13_couldBe d 91 [(0, .ref v0), (1, .int v1), (2, .int v2), (3, .int y3)] [] h1 rv h') : G X mX13_couldBe d 76 [(0, .ref v0), (1, .int v1), (2, .int v2), (4, .int v4)] [.int s0, .int s1] h rv h' := by
  unfold f_X13_couldBe_76 at hf
  have hrec := hrecf rv h'
  refine G.icmp_ne 83 dX13_couldBe_76 (by decide) (fun c1 => ?_) (fun c1 => ?_)
  · rw [if_neg c1] at hf
    refine G.iconst (v := (0 : Int32)) dX13_couldBe_83 (by decide) ?_
    refine G.istore_n (lv' := [(3, .int (0 : Int32)), (0, .ref v0), (1, .int v1), (2, .int v2), (4, .int v4)]) dX13_couldBe_84 (by decide) rfl ?_
    refine G.iinc (v := (v4 + 1)) (lv' := [(4, .int (v4 + 1)), (3, .int (0 : Int32)), (0, .ref v0), (1, .int v1), (2, .int v2)]) dX13_couldBe_85 rfl rfl (by decide) rfl ?_
    refine G.goto 17 dX13_couldBe_88 (by decide) ?_
    exact G.pick [2, 3, 4, 1, 0] rfl (hrec v0 v1 v2 (0 : Int32) (v4 + 1) h _ _ hf hE)
  · rw [if_pos c1] at hf
    refine G.iconst (v := (1 : Int32)) dX13_couldBe_79 (by decide) ?_
    refine G.goto 84 dX13_couldBe_80 (by decide) ?_
    refine G.istore_n (lv' := [(3, .int (1 : Int32)), (0, .ref v0), (1, .int v1), (2, .int v2), (4, .int v4)]) dX13_couldBe_84 (by decide) rfl ?_
    refine G.iinc (v := (v4 + 1)) (lv' := [(4, .int (v4 + 1)), (3, .int (1 : Int32)), (0, .ref v0), (1, .int v1), (2, .int v2)]) dX13_couldBe_85 rfl rfl (by decide) rfl ?_
    refine G.goto 17 dX13_couldBe_88 (by decide) ?_
    exact G.pick [2, 3, 4, 1, 0] rfl (hrec v0 v1 v2 (1 : Int32) (v4 + 1) h _ _ hf hE)
def f_X13_couldBe_56 (rec : Nat → Int32 → Int32 → Int32 → Int32 → AH → Option (Int32 × AH)) (v0 : Nat) (v1 : Int32) (v2 : Int32) (v4 : Int32) (s0 : Int32) (h : AH) : Option (Int32 × AH) := (gr h 12 v0 18).bind fun r1 => (ai h 0 r1 (((2 : Int32) * v4) + (1 : Int32))).bind fun x2 => if x2 = (1 : Int32) then (f_X13_couldBe_76 rec v0 v1 v2 v4 (1 : Int32) s0 h) else (f_X13_couldBe_76 rec v0 v1 v2 v4 (0 : Int32) s0 h)
set_option maxRecDepth 100000 in
set_option maxHeartbeats 4000000 in
theorem j_X13_couldBe_56 (X : SX) (d : Nat) (rec : Nat → Int32 → Int32 → Int32 → Int32 → AH → Option (Int32 × AH)) (hrecf : ∀ (rv : Option Int32) (h' : AH), ∀ (v0 : Nat) (v1 : Int32) (v2 : Int32) (v3 : Int32) (v4 : Int32) (h : AH) (y3 : Int32) (h1 : AH), rec v0 v1 v2 v3 v4 h = some (y3, h1) → G X mX13_couldBe d 91 [(0, .ref v0), (1, .int v1), (2, .int v2), (3, .int y3)] [] h1 rv h' → G X mX13_couldBe d 17 [(0, .ref v0), (1, .int v1), (2, .int v2), (3, .int v3), (4, .int v4)] [] h rv h') (v0 : Nat) (v1 : Int32) (v2 : Int32) (v4 : Int32) (s0 : Int32) (h : AH) (y3 : Int32) (h1 : AH) (hf : f_X13_couldBe_56 rec v0 v1 v2 v4 s0 h = some (y3, h1)) (rv : Option Int32) (h' : AH) (hE : G X mX13_couldBe d 91 [(0, .ref v0), (1, .int v1), (2, .int v2), (3, .int y3)] [] h1 rv h') : G X mX13_couldBe d 56 [(0, .ref v0), (1, .int v1), (2, .int v2), (4, .int v4)] [.int s0] h rv h' := by
  unfold f_X13_couldBe_56 at hf
  have hrec := hrecf rv h'
  refine G.aload_n dX13_couldBe_56 rfl ?_
  refine G.getr flX13_45 dX13_couldBe_57 hf (fun r1 hf => ?_)
  refine G.iconst (v := (2 : Int32)) dX13_couldBe_60 (by decide) ?_
  refine G.iload dX13_couldBe_61 rfl ?_
  refine G.imul dX13_couldBe_63 ?_
  refine G.iconst (v := (1 : Int32)) dX13_couldBe_64 (by decide) ?_
  refine G.iadd dX13_couldBe_65 ?_
  refine G.iald dX13_couldBe_66 hf (fun x2 hf => ?_)
  refine G.iconst (v := (1 : Int32)) dX13_couldBe_67 (by decide) ?_
  refine G.icmp_ne 75 dX13_couldBe_68 (by decide) (fun c3 => ?_) (fun c3 => ?_)
  · rw [if_neg c3] at hf
    refine G.iconst (v := (0 : Int32)) dX13_couldBe_75 (by decide) ?_
    exact G.pick [0, 1, 2, 3] rfl (j_X13_couldBe_76 X d _ hrecf v0 v1 v2 v4 (0 : Int32) s0 h _ _ hf _ _ hE)
  · rw [if_pos c3] at hf
    refine G.iconst (v := (1 : Int32)) dX13_couldBe_71 (by decide) ?_
    refine G.goto 76 dX13_couldBe_72 (by decide) ?_
    exact G.pick [0, 1, 2, 3] rfl (j_X13_couldBe_76 X d _ hrecf v0 v1 v2 v4 (1 : Int32) s0 h _ _ hf _ _ hE)
def F_X13_couldBe_L17 (rec : Nat → Int32 → Int32 → Int32 → Int32 → AH → Option (Int32 × AH)) (v0 : Nat) (v1 : Int32) (v2 : Int32) (v3 : Int32) (v4 : Int32) (h : AH) : Option (Int32 × AH) := (gi h 12 v0 19).bind fun x1 => if x1 ≤ v4 then (some (v3, h)) else (if v3 = 0 then (rec v0 v1 v2 (0 : Int32) (v4 + 1) h) else ((gr h 12 v0 11).bind fun r4 => (ai h 0 r4 ((6 : Int32) + v2)).bind fun x5 => (gr h 12 v0 18).bind fun r6 => (ai h 0 r6 ((2 : Int32) * v4)).bind fun x7 => if x5 < x7 then (f_X13_couldBe_56 rec v0 v1 v2 v4 (0 : Int32) h) else (f_X13_couldBe_56 rec v0 v1 v2 v4 (1 : Int32) h)))
def f_X13_couldBe_L17 : Nat → Nat → Int32 → Int32 → Int32 → Int32 → AH → Option (Int32 × AH)
  | 0 => fun _ _ _ _ _ _ => none
  | n + 1 => F_X13_couldBe_L17 (f_X13_couldBe_L17 n)
set_option maxRecDepth 100000 in
set_option maxHeartbeats 4000000 in
theorem lx_X13_couldBe_L17 (X : SX) (d : Nat) : ∀ n (rv : Option Int32) (h' : AH), ∀ (v0 : Nat) (v1 : Int32) (v2 : Int32) (v3 : Int32) (v4 : Int32) (h : AH) (y3 : Int32) (h1 : AH), f_X13_couldBe_L17 n v0 v1 v2 v3 v4 h = some (y3, h1) → G X mX13_couldBe d 91 [(0, .ref v0), (1, .int v1), (2, .int v2), (3, .int y3)] [] h1 rv h' → G X mX13_couldBe d 17 [(0, .ref v0), (1, .int v1), (2, .int v2), (3, .int v3), (4, .int v4)] [] h rv h' := by
  intro n
  induction n with
  | zero =>
    intro rv h' v0 v1 v2 v3 v4 h y3 h1 hf hE
    cases hf
  | succ n ihf =>
    intro rv h' v0 v1 v2 v3 v4 h y3 h1 hf hE
    replace hf : F_X13_couldBe_L17 (f_X13_couldBe_L17 n) v0 v1 v2 v3 v4 h = some (y3, h1) := hf
    unfold F_X13_couldBe_L17 at hf
    have ih := ihf rv h'
    refine G.iload dX13_couldBe_17 rfl ?_
    refine G.aload_n dX13_couldBe_19 rfl ?_
    refine G.geti flX13_132 dX13_couldBe_20 hf (fun x1 hf => ?_)
    refine G.icmp_ge 91 dX13_couldBe_23 (by decide) (fun c2 => ?_) (fun c2 => ?_)
    · rw [if_pos c2] at hf
      obtain ⟨u0, w1⟩ := Prod.mk.inj (Option.some.inj hf)
      subst u0
      subst w1
      exact G.pick [0, 1, 2, 3] rfl hE
    · rw [if_neg c2] at hf
      refine G.iload_n dX13_couldBe_26 rfl ?_
      refine G.if_eq 83 dX13_couldBe_27 (by decide) (fun c3 => ?_) (fun c3 => ?_)
      · rw [if_pos c3] at hf
        refine G.iconst (v := (0 : Int32)) dX13_couldBe_83 (by decide) ?_
        refine G.istore_n (lv' := [(3, .int (0 : Int32)), (0, .ref v0), (1, .int v1), (2, .int v2), (4, .int v4)]) dX13_couldBe_84 (by decide) rfl ?_
        refine G.iinc (v := (v4 + 1)) (lv' := [(4, .int (v4 + 1)), (3, .int (0 : Int32)), (0, .ref v0), (1, .int v1), (2, .int v2)]) dX13_couldBe_85 rfl rfl (by decide) rfl ?_
        refine G.goto 17 dX13_couldBe_88 (by decide) ?_
        exact G.pick [2, 3, 4, 1, 0] rfl (ih v0 v1 v2 (0 : Int32) (v4 + 1) h _ _ hf hE)
      · rw [if_neg c3] at hf
        refine G.aload_n dX13_couldBe_30 rfl ?_
        refine G.getr flX13_29 dX13_couldBe_31 hf (fun r4 hf => ?_)
        refine G.bipush (v := (6 : Int32)) dX13_couldBe_34 (by decide) ?_
        refine G.iload_n dX13_couldBe_36 rfl ?_
        refine G.iadd dX13_couldBe_37 ?_
        refine G.iald dX13_couldBe_38 hf (fun x5 hf => ?_)
        refine G.aload_n dX13_couldBe_39 rfl ?_
        refine G.getr flX13_45 dX13_couldBe_40 hf (fun r6 hf => ?_)
        refine G.iconst (v := (2 : Int32)) dX13_couldBe_43 (by decide) ?_
        refine G.iload dX13_couldBe_44 rfl ?_
        refine G.imul dX13_couldBe_46 ?_
        refine G.iald dX13_couldBe_47 hf (fun x7 hf => ?_)
        refine G.icmp_lt 55 dX13_couldBe_48 (by decide) (fun c8 => ?_) (fun c8 => ?_)
        · rw [if_pos c8] at hf
          refine G.iconst (v := (0 : Int32)) dX13_couldBe_55 (by decide) ?_
          exact G.pick [0, 1, 2, 4] rfl (j_X13_couldBe_56 X d _ ihf v0 v1 v2 v4 (0 : Int32) h _ _ hf _ _ hE)
        · rw [if_neg c8] at hf
          refine G.iconst (v := (1 : Int32)) dX13_couldBe_51 (by decide) ?_
          refine G.goto 56 dX13_couldBe_52 (by decide) ?_
          exact G.pick [0, 1, 2, 4] rfl (j_X13_couldBe_56 X d _ ihf v0 v1 v2 v4 (1 : Int32) h _ _ hf _ _ hE)
theorem l_X13_couldBe_L17 (X : SX) (d : Nat) (rv : Option Int32) (h' : AH) (n : Nat) : ∀ (v0 : Nat) (v1 : Int32) (v2 : Int32) (v3 : Int32) (v4 : Int32) (h : AH) (y3 : Int32) (h1 : AH), f_X13_couldBe_L17 n v0 v1 v2 v3 v4 h = some (y3, h1) → G X mX13_couldBe d 91 [(0, .ref v0), (1, .int v1), (2, .int v2), (3, .int y3)] [] h1 rv h' → G X mX13_couldBe d 17 [(0, .ref v0), (1, .int v1), (2, .int v2), (3, .int v3), (4, .int v4)] [] h rv h' := lx_X13_couldBe_L17 X d n rv h'
def F_X13_couldBe_L4 (rec : Nat → Int32 → Int32 → AH → Option (Int32 × AH)) (v0 : Nat) (v1 : Int32) (v2 : Int32) (h : AH) : Option (Int32 × AH) := (gi h 12 v0 5).bind fun x1 => if x1 ≤ v2 then (some (v1, h)) else (bT1 (f_X13_couldBe_L17 1000000 v0 v1 v2 (1 : Int32) (0 : Int32) h) fun y5 h3 => if y5 = 0 then (rec v0 (v1 ||| (0 : Int32)) (v2 + 1) h3) else (rec v0 (v1 ||| ((1 : Int32) <<< (v2 &&& 31))) (v2 + 1) h3))
def f_X13_couldBe_L4 : Nat → Nat → Int32 → Int32 → AH → Option (Int32 × AH)
  | 0 => fun _ _ _ _ => none
  | n + 1 => F_X13_couldBe_L4 (f_X13_couldBe_L4 n)
set_option maxRecDepth 100000 in
set_option maxHeartbeats 4000000 in
theorem lx_X13_couldBe_L4 (X : SX) (d : Nat) : ∀ n (rv : Option Int32) (h' : AH), ∀ (v0 : Nat) (v1 : Int32) (v2 : Int32) (h : AH) (y1 : Int32) (h1 : AH), f_X13_couldBe_L4 n v0 v1 v2 h = some (y1, h1) → G X mX13_couldBe d 111 [(1, .int y1)] [] h1 rv h' → G X mX13_couldBe d 4 [(0, .ref v0), (1, .int v1), (2, .int v2)] [] h rv h' := by
  intro n
  induction n with
  | zero =>
    intro rv h' v0 v1 v2 h y1 h1 hf hE
    cases hf
  | succ n ihf =>
    intro rv h' v0 v1 v2 h y1 h1 hf hE
    replace hf : F_X13_couldBe_L4 (f_X13_couldBe_L4 n) v0 v1 v2 h = some (y1, h1) := hf
    unfold F_X13_couldBe_L4 at hf
    have ih := ihf rv h'
    refine G.iload_n dX13_couldBe_4 rfl ?_
    refine G.aload_n dX13_couldBe_5 rfl ?_
    refine G.geti flX13_75 dX13_couldBe_6 hf (fun x1 hf => ?_)
    refine G.icmp_ge 111 dX13_couldBe_9 (by decide) (fun c2 => ?_) (fun c2 => ?_)
    · rw [if_pos c2] at hf
      obtain ⟨u0, w1⟩ := Prod.mk.inj (Option.some.inj hf)
      subst u0
      subst w1
      exact G.pick [1] rfl hE
    · rw [if_neg c2] at hf
      refine G.iconst (v := (1 : Int32)) dX13_couldBe_12 (by decide) ?_
      refine G.istore_n (lv' := [(3, .int (1 : Int32)), (0, .ref v0), (1, .int v1), (2, .int v2)]) dX13_couldBe_13 (by decide) rfl ?_
      refine G.iconst (v := (0 : Int32)) dX13_couldBe_14 (by decide) ?_
      refine G.istore (lv' := [(4, .int (0 : Int32)), (3, .int (1 : Int32)), (0, .ref v0), (1, .int v1), (2, .int v2)]) dX13_couldBe_15 (by decide) rfl ?_
      obtain ⟨y5, h3, e4, hf⟩ := bT1_spec hf
      refine G.pick [2, 3, 4, 1, 0] rfl (l_X13_couldBe_L17 X d _ _ 1000000 v0 v1 v2 (1 : Int32) (0 : Int32) h y5 h3 e4 ?_)
      refine G.iload_n dX13_couldBe_91 rfl ?_
      refine G.iload_n dX13_couldBe_92 rfl ?_
      refine G.if_eq 102 dX13_couldBe_93 (by decide) (fun c6 => ?_) (fun c6 => ?_)
      · rw [if_pos c6] at hf
        refine G.iconst (v := (0 : Int32)) dX13_couldBe_102 (by decide) ?_
        refine G.ior dX13_couldBe_103 ?_
        refine G.istore_n (lv' := [(1, .int (v1 ||| (0 : Int32))), (0, .ref v0), (2, .int v2), (3, .int y5)]) dX13_couldBe_104 (by decide) rfl ?_
        refine G.iinc (v := (v2 + 1)) (lv' := [(2, .int (v2 + 1)), (1, .int (v1 ||| (0 : Int32))), (0, .ref v0), (3, .int y5)]) dX13_couldBe_105 rfl rfl (by decide) rfl ?_
        refine G.goto 4 dX13_couldBe_108 (by decide) ?_
        exact G.pick [2, 1, 0] rfl (ih v0 (v1 ||| (0 : Int32)) (v2 + 1) h3 _ _ hf hE)
      · rw [if_neg c6] at hf
        refine G.iconst (v := (1 : Int32)) dX13_couldBe_96 (by decide) ?_
        refine G.iload_n dX13_couldBe_97 rfl ?_
        refine G.ishl dX13_couldBe_98 ?_
        refine G.goto 103 dX13_couldBe_99 (by decide) ?_
        refine G.ior dX13_couldBe_103 ?_
        refine G.istore_n (lv' := [(1, .int (v1 ||| ((1 : Int32) <<< (v2 &&& 31)))), (0, .ref v0), (2, .int v2), (3, .int y5)]) dX13_couldBe_104 (by decide) rfl ?_
        refine G.iinc (v := (v2 + 1)) (lv' := [(2, .int (v2 + 1)), (1, .int (v1 ||| ((1 : Int32) <<< (v2 &&& 31)))), (0, .ref v0), (3, .int y5)]) dX13_couldBe_105 rfl rfl (by decide) rfl ?_
        refine G.goto 4 dX13_couldBe_108 (by decide) ?_
        exact G.pick [2, 1, 0] rfl (ih v0 (v1 ||| ((1 : Int32) <<< (v2 &&& 31))) (v2 + 1) h3 _ _ hf hE)
theorem l_X13_couldBe_L4 (X : SX) (d : Nat) (rv : Option Int32) (h' : AH) (n : Nat) : ∀ (v0 : Nat) (v1 : Int32) (v2 : Int32) (h : AH) (y1 : Int32) (h1 : AH), f_X13_couldBe_L4 n v0 v1 v2 h = some (y1, h1) → G X mX13_couldBe d 111 [(1, .int y1)] [] h1 rv h' → G X mX13_couldBe d 4 [(0, .ref v0), (1, .int v1), (2, .int v2)] [] h rv h' := lx_X13_couldBe_L4 X d n rv h'
def f_X13_couldBe (a0 : Nat) (h : AH) : Option (Int32 × AH) := if isO h 12 a0 = true then (bT1 (f_X13_couldBe_L4 1000000 a0 (0 : Int32) (0 : Int32) h) fun y3 h1 => some (y3, h1)) else none
set_option maxRecDepth 100000 in
set_option maxHeartbeats 4000000 in
theorem c_X13_couldBe (X : SX) (d : Nat) (a0 : Nat) (h : AH) (rr : Int32) (h' : AH) (hf : f_X13_couldBe a0 h = some (rr, h')) : isO h 12 a0 = true ∧ G X mX13_couldBe d 0 [(0, .ref a0)] [] h (some rr) h' := by
  unfold f_X13_couldBe at hf
  by_cases ho : isO h 12 a0 = true
  · rw [if_pos ho] at hf
    refine ⟨ho, ?_⟩
    refine G.iconst (v := (0 : Int32)) dX13_couldBe_0 (by decide) ?_
    refine G.istore_n (lv' := [(1, .int (0 : Int32)), (0, .ref a0)]) dX13_couldBe_1 (by decide) rfl ?_
    refine G.iconst (v := (0 : Int32)) dX13_couldBe_2 (by decide) ?_
    refine G.istore_n (lv' := [(2, .int (0 : Int32)), (1, .int (0 : Int32)), (0, .ref a0)]) dX13_couldBe_3 (by decide) rfl ?_
    obtain ⟨y3, h1, e2, hf⟩ := bT1_spec hf
    refine G.pick [2, 1, 0] rfl (l_X13_couldBe_L4 X d _ _ 1000000 a0 (0 : Int32) (0 : Int32) h y3 h1 e2 ?_)
    refine G.iload_n dX13_couldBe_111 rfl ?_
    obtain ⟨hq1, hq2⟩ := Prod.mk.inj (Option.some.inj hf)
    subst hq1
    subst hq2
    exact G.iret rfl rfl dX13_couldBe_112
  · rw [if_neg ho] at hf
    cases hf
/-! J6_bitCount_0f7a4 -/
theorem dJ6_bitCount_0f7a4_0 : decode cJ6_bitCount_0f7a4 0 = .ok (.iload_n 0, 1) := by decide +kernel
theorem dJ6_bitCount_0f7a4_1 : decode cJ6_bitCount_0f7a4 1 = .ok (.iload_n 0, 1) := by decide +kernel
theorem dJ6_bitCount_0f7a4_2 : decode cJ6_bitCount_0f7a4 2 = .ok (.iconst 1, 1) := by decide +kernel
theorem dJ6_bitCount_0f7a4_3 : decode cJ6_bitCount_0f7a4 3 = .ok (.iushr, 1) := by decide +kernel
theorem dJ6_bitCount_0f7a4_4 : decode cJ6_bitCount_0f7a4 4 = .ok (.ldc_w 265, 3) := by decide +kernel
theorem dJ6_bitCount_0f7a4_7 : decode cJ6_bitCount_0f7a4 7 = .ok (.iand, 1) := by decide +kernel
theorem dJ6_bitCount_0f7a4_8 : decode cJ6_bitCount_0f7a4 8 = .ok (.isub, 1) := by decide +kernel
theorem dJ6_bitCount_0f7a4_9 : decode cJ6_bitCount_0f7a4 9 = .ok (.istore_n 0, 1) := by decide +kernel
theorem dJ6_bitCount_0f7a4_10 : decode cJ6_bitCount_0f7a4 10 = .ok (.iload_n 0, 1) := by decide +kernel
theorem dJ6_bitCount_0f7a4_11 : decode cJ6_bitCount_0f7a4 11 = .ok (.ldc_w 266, 3) := by decide +kernel
theorem dJ6_bitCount_0f7a4_14 : decode cJ6_bitCount_0f7a4 14 = .ok (.iand, 1) := by decide +kernel
theorem dJ6_bitCount_0f7a4_15 : decode cJ6_bitCount_0f7a4 15 = .ok (.iload_n 0, 1) := by decide +kernel
theorem dJ6_bitCount_0f7a4_16 : decode cJ6_bitCount_0f7a4 16 = .ok (.iconst 2, 1) := by decide +kernel
theorem dJ6_bitCount_0f7a4_17 : decode cJ6_bitCount_0f7a4 17 = .ok (.iushr, 1) := by decide +kernel
theorem dJ6_bitCount_0f7a4_18 : decode cJ6_bitCount_0f7a4 18 = .ok (.ldc_w 266, 3) := by decide +kernel
theorem dJ6_bitCount_0f7a4_21 : decode cJ6_bitCount_0f7a4 21 = .ok (.iand, 1) := by decide +kernel
theorem dJ6_bitCount_0f7a4_22 : decode cJ6_bitCount_0f7a4 22 = .ok (.iadd, 1) := by decide +kernel
theorem dJ6_bitCount_0f7a4_23 : decode cJ6_bitCount_0f7a4 23 = .ok (.istore_n 0, 1) := by decide +kernel
theorem dJ6_bitCount_0f7a4_24 : decode cJ6_bitCount_0f7a4 24 = .ok (.iload_n 0, 1) := by decide +kernel
theorem dJ6_bitCount_0f7a4_25 : decode cJ6_bitCount_0f7a4 25 = .ok (.iload_n 0, 1) := by decide +kernel
theorem dJ6_bitCount_0f7a4_26 : decode cJ6_bitCount_0f7a4 26 = .ok (.iconst 4, 1) := by decide +kernel
theorem dJ6_bitCount_0f7a4_27 : decode cJ6_bitCount_0f7a4 27 = .ok (.iushr, 1) := by decide +kernel
theorem dJ6_bitCount_0f7a4_28 : decode cJ6_bitCount_0f7a4 28 = .ok (.iadd, 1) := by decide +kernel
theorem dJ6_bitCount_0f7a4_29 : decode cJ6_bitCount_0f7a4 29 = .ok (.ldc_w 267, 3) := by decide +kernel
theorem dJ6_bitCount_0f7a4_32 : decode cJ6_bitCount_0f7a4 32 = .ok (.iand, 1) := by decide +kernel
theorem dJ6_bitCount_0f7a4_33 : decode cJ6_bitCount_0f7a4 33 = .ok (.istore_n 0, 1) := by decide +kernel
theorem dJ6_bitCount_0f7a4_34 : decode cJ6_bitCount_0f7a4 34 = .ok (.iload_n 0, 1) := by decide +kernel
theorem dJ6_bitCount_0f7a4_35 : decode cJ6_bitCount_0f7a4 35 = .ok (.iload_n 0, 1) := by decide +kernel
theorem dJ6_bitCount_0f7a4_36 : decode cJ6_bitCount_0f7a4 36 = .ok (.bipush 8, 2) := by decide +kernel
theorem dJ6_bitCount_0f7a4_38 : decode cJ6_bitCount_0f7a4 38 = .ok (.iushr, 1) := by decide +kernel
theorem dJ6_bitCount_0f7a4_39 : decode cJ6_bitCount_0f7a4 39 = .ok (.iadd, 1) := by decide +kernel
theorem dJ6_bitCount_0f7a4_40 : decode cJ6_bitCount_0f7a4 40 = .ok (.istore_n 0, 1) := by decide +kernel
theorem dJ6_bitCount_0f7a4_41 : decode cJ6_bitCount_0f7a4 41 = .ok (.iload_n 0, 1) := by decide +kernel
theorem dJ6_bitCount_0f7a4_42 : decode cJ6_bitCount_0f7a4 42 = .ok (.iload_n 0, 1) := by decide +kernel
theorem dJ6_bitCount_0f7a4_43 : decode cJ6_bitCount_0f7a4 43 = .ok (.bipush 16, 2) := by decide +kernel
theorem dJ6_bitCount_0f7a4_45 : decode cJ6_bitCount_0f7a4 45 = .ok (.iushr, 1) := by decide +kernel
theorem dJ6_bitCount_0f7a4_46 : decode cJ6_bitCount_0f7a4 46 = .ok (.iadd, 1) := by decide +kernel
theorem dJ6_bitCount_0f7a4_47 : decode cJ6_bitCount_0f7a4 47 = .ok (.istore_n 0, 1) := by decide +kernel
theorem dJ6_bitCount_0f7a4_48 : decode cJ6_bitCount_0f7a4 48 = .ok (.iload_n 0, 1) := by decide +kernel
theorem dJ6_bitCount_0f7a4_49 : decode cJ6_bitCount_0f7a4 49 = .ok (.bipush 63, 2) := by decide +kernel
theorem dJ6_bitCount_0f7a4_51 : decode cJ6_bitCount_0f7a4 51 = .ok (.iand, 1) := by decide +kernel
theorem dJ6_bitCount_0f7a4_52 : decode cJ6_bitCount_0f7a4 52 = .ok (.ireturn, 1) := by decide +kernel
def f_J6_bitCount_0f7a4 (a0 : Int32) (h : AH) : Option (Int32 × AH) := some (((((((((a0 - (((Int32.toUInt32 a0 >>> (Int32.toUInt32 (1 : Int32) &&& Int32.toUInt32 31)).toInt32) &&& (1431655765 : Int32))) &&& (858993459 : Int32)) + (((Int32.toUInt32 (a0 - (((Int32.toUInt32 a0 >>> (Int32.toUInt32 (1 : Int32) &&& Int32.toUInt32 31)).toInt32) &&& (1431655765 : Int32))) >>> (Int32.toUInt32 (2 : Int32) &&& Int32.toUInt32 31)).toInt32) &&& (858993459 : Int32))) + ((Int32.toUInt32 (((a0 - (((Int32.toUInt32 a0 >>> (Int32.toUInt32 (1 : Int32) &&& Int32.toUInt32 31)).toInt32) &&& (1431655765 : Int32))) &&& (858993459 : Int32)) + (((Int32.toUInt32 (a0 - (((Int32.toUInt32 a0 >>> (Int32.toUInt32 (1 : Int32) &&& Int32.toUInt32 31)).toInt32) &&& (1431655765 : Int32))) >>> (Int32.toUInt32 (2 : Int32) &&& Int32.toUInt32 31)).toInt32) &&& (858993459 : Int32))) >>> (Int32.toUInt32 (4 : Int32) &&& Int32.toUInt32 31)).toInt32)) &&& (252645135 : Int32)) + ((Int32.toUInt32 (((((a0 - (((Int32.toUInt32 a0 >>> (Int32.toUInt32 (1 : Int32) &&& Int32.toUInt32 31)).toInt32) &&& (1431655765 : Int32))) &&& (858993459 : Int32)) + (((Int32.toUInt32 (a0 - (((Int32.toUInt32 a0 >>> (Int32.toUInt32 (1 : Int32) &&& Int32.toUInt32 31)).toInt32) &&& (1431655765 : Int32))) >>> (Int32.toUInt32 (2 : Int32) &&& Int32.toUInt32 31)).toInt32) &&& (858993459 : Int32))) + ((Int32.toUInt32 (((a0 - (((Int32.toUInt32 a0 >>> (Int32.toUInt32 (1 : Int32) &&& Int32.toUInt32 31)).toInt32) &&& (1431655765 : Int32))) &&& (858993459 : Int32)) + (((Int32.toUInt32 (a0 - (((Int32.toUInt32 a0 >>> (Int32.toUInt32 (1 : Int32) &&& Int32.toUInt32 31)).toInt32) &&& (1431655765 : Int32))) >>> (Int32.toUInt32 (2 : Int32) &&& Int32.toUInt32 31)).toInt32) &&& (858993459 : Int32))) >>> (Int32.toUInt32 (4 : Int32) &&& Int32.toUInt32 31)).toInt32)) &&& (252645135 : Int32)) >>> (Int32.toUInt32 (8 : Int32) &&& Int32.toUInt32 31)).toInt32)) + ((Int32.toUInt32 ((((((a0 - (((Int32.toUInt32 a0 >>> (Int32.toUInt32 (1 : Int32) &&& Int32.toUInt32 31)).toInt32) &&& (1431655765 : Int32))) &&& (858993459 : Int32)) + (((Int32.toUInt32 (a0 - (((Int32.toUInt32 a0 >>> (Int32.toUInt32 (1 : Int32) &&& Int32.toUInt32 31)).toInt32) &&& (1431655765 : Int32))) >>> (Int32.toUInt32 (2 : Int32) &&& Int32.toUInt32 31)).toInt32) &&& (858993459 : Int32))) + ((Int32.toUInt32 (((a0 - (((Int32.toUInt32 a0 >>> (Int32.toUInt32 (1 : Int32) &&& Int32.toUInt32 31)).toInt32) &&& (1431655765 : Int32))) &&& (858993459 : Int32)) + (((Int32.toUInt32 (a0 - (((Int32.toUInt32 a0 >>> (Int32.toUInt32 (1 : Int32) &&& Int32.toUInt32 31)).toInt32) &&& (1431655765 : Int32))) >>> (Int32.toUInt32 (2 : Int32) &&& Int32.toUInt32 31)).toInt32) &&& (858993459 : Int32))) >>> (Int32.toUInt32 (4 : Int32) &&& Int32.toUInt32 31)).toInt32)) &&& (252645135 : Int32)) + ((Int32.toUInt32 (((((a0 - (((Int32.toUInt32 a0 >>> (Int32.toUInt32 (1 : Int32) &&& Int32.toUInt32 31)).toInt32) &&& (1431655765 : Int32))) &&& (858993459 : Int32)) + (((Int32.toUInt32 (a0 - (((Int32.toUInt32 a0 >>> (Int32.toUInt32 (1 : Int32) &&& Int32.toUInt32 31)).toInt32) &&& (1431655765 : Int32))) >>> (Int32.toUInt32 (2 : Int32) &&& Int32.toUInt32 31)).toInt32) &&& (858993459 : Int32))) + ((Int32.toUInt32 (((a0 - (((Int32.toUInt32 a0 >>> (Int32.toUInt32 (1 : Int32) &&& Int32.toUInt32 31)).toInt32) &&& (1431655765 : Int32))) &&& (858993459 : Int32)) + (((Int32.toUInt32 (a0 - (((Int32.toUInt32 a0 >>> (Int32.toUInt32 (1 : Int32) &&& Int32.toUInt32 31)).toInt32) &&& (1431655765 : Int32))) >>> (Int32.toUInt32 (2 : Int32) &&& Int32.toUInt32 31)).toInt32) &&& (858993459 : Int32))) >>> (Int32.toUInt32 (4 : Int32) &&& Int32.toUInt32 31)).toInt32)) &&& (252645135 : Int32)) >>> (Int32.toUInt32 (8 : Int32) &&& Int32.toUInt32 31)).toInt32)) >>> (Int32.toUInt32 (16 : Int32) &&& Int32.toUInt32 31)).toInt32)) &&& (63 : Int32)), h)
set_option maxRecDepth 100000 in
set_option maxHeartbeats 4000000 in
theorem c_J6_bitCount_0f7a4 (X : SX) (d : Nat) (a0 : Int32) (h : AH) (rr : Int32) (h' : AH) (hf : f_J6_bitCount_0f7a4 a0 h = some (rr, h')) : G X mJ6_bitCount_0f7a4 d 0 [(0, .int a0)] [] h (some rr) h' := by
  unfold f_J6_bitCount_0f7a4 at hf
  refine G.iload_n dJ6_bitCount_0f7a4_0 rfl ?_
  refine G.iload_n dJ6_bitCount_0f7a4_1 rfl ?_
  refine G.iconst (v := (1 : Int32)) dJ6_bitCount_0f7a4_2 (by decide) ?_
  refine G.iushr dJ6_bitCount_0f7a4_3 ?_
  refine G.ldcw ckJ6_265 dJ6_bitCount_0f7a4_4 ?_
  refine G.iand dJ6_bitCount_0f7a4_7 ?_
  refine G.isub dJ6_bitCount_0f7a4_8 ?_
  refine G.istore_n (lv' := [(0, .int (a0 - (((Int32.toUInt32 a0 >>> (Int32.toUInt32 (1 : Int32) &&& Int32.toUInt32 31)).toInt32) &&& (1431655765 : Int32))))]) dJ6_bitCount_0f7a4_9 (by decide) rfl ?_
  refine G.iload_n dJ6_bitCount_0f7a4_10 rfl ?_
  refine G.ldcw ckJ6_266 dJ6_bitCount_0f7a4_11 ?_
  refine G.iand dJ6_bitCount_0f7a4_14 ?_
  refine G.iload_n dJ6_bitCount_0f7a4_15 rfl ?_
  refine G.iconst (v := (2 : Int32)) dJ6_bitCount_0f7a4_16 (by decide) ?_
  refine G.iushr dJ6_bitCount_0f7a4_17 ?_
  refine G.ldcw ckJ6_266 dJ6_bitCount_0f7a4_18 ?_
  refine G.iand dJ6_bitCount_0f7a4_21 ?_
  refine G.iadd dJ6_bitCount_0f7a4_22 ?_
  refine G.istore_n (lv' := [(0, .int (((a0 - (((Int32.toUInt32 a0 >>> (Int32.toUInt32 (1 : Int32) &&& Int32.toUInt32 31)).toInt32) &&& (1431655765 : Int32))) &&& (858993459 : Int32)) + (((Int32.toUInt32 (a0 - (((Int32.toUInt32 a0 >>> (Int32.toUInt32 (1 : Int32) &&& Int32.toUInt32 31)).toInt32) &&& (1431655765 : Int32))) >>> (Int32.toUInt32 (2 : Int32) &&& Int32.toUInt32 31)).toInt32) &&& (858993459 : Int32))))]) dJ6_bitCount_0f7a4_23 (by decide) rfl ?_
  refine G.iload_n dJ6_bitCount_0f7a4_24 rfl ?_
  refine G.iload_n dJ6_bitCount_0f7a4_25 rfl ?_
  refine G.iconst (v := (4 : Int32)) dJ6_bitCount_0f7a4_26 (by decide) ?_
  refine G.iushr dJ6_bitCount_0f7a4_27 ?_
  refine G.iadd dJ6_bitCount_0f7a4_28 ?_
  refine G.ldcw ckJ6_267 dJ6_bitCount_0f7a4_29 ?_
  refine G.iand dJ6_bitCount_0f7a4_32 ?_
  refine G.istore_n (lv' := [(0, .int (((((a0 - (((Int32.toUInt32 a0 >>> (Int32.toUInt32 (1 : Int32) &&& Int32.toUInt32 31)).toInt32) &&& (1431655765 : Int32))) &&& (858993459 : Int32)) + (((Int32.toUInt32 (a0 - (((Int32.toUInt32 a0 >>> (Int32.toUInt32 (1 : Int32) &&& Int32.toUInt32 31)).toInt32) &&& (1431655765 : Int32))) >>> (Int32.toUInt32 (2 : Int32) &&& Int32.toUInt32 31)).toInt32) &&& (858993459 : Int32))) + ((Int32.toUInt32 (((a0 - (((Int32.toUInt32 a0 >>> (Int32.toUInt32 (1 : Int32) &&& Int32.toUInt32 31)).toInt32) &&& (1431655765 : Int32))) &&& (858993459 : Int32)) + (((Int32.toUInt32 (a0 - (((Int32.toUInt32 a0 >>> (Int32.toUInt32 (1 : Int32) &&& Int32.toUInt32 31)).toInt32) &&& (1431655765 : Int32))) >>> (Int32.toUInt32 (2 : Int32) &&& Int32.toUInt32 31)).toInt32) &&& (858993459 : Int32))) >>> (Int32.toUInt32 (4 : Int32) &&& Int32.toUInt32 31)).toInt32)) &&& (252645135 : Int32)))]) dJ6_bitCount_0f7a4_33 (by decide) rfl ?_
  refine G.iload_n dJ6_bitCount_0f7a4_34 rfl ?_
  refine G.iload_n dJ6_bitCount_0f7a4_35 rfl ?_
  refine G.bipush (v := (8 : Int32)) dJ6_bitCount_0f7a4_36 (by decide) ?_
  refine G.iushr dJ6_bitCount_0f7a4_38 ?_
  refine G.iadd dJ6_bitCount_0f7a4_39 ?_
  refine G.istore_n (lv' := [(0, .int ((((((a0 - (((Int32.toUInt32 a0 >>> (Int32.toUInt32 (1 : Int32) &&& Int32.toUInt32 31)).toInt32) &&& (1431655765 : Int32))) &&& (858993459 : Int32)) + (((Int32.toUInt32 (a0 - (((Int32.toUInt32 a0 >>> (Int32.toUInt32 (1 : Int32) &&& Int32.toUInt32 31)).toInt32) &&& (1431655765 : Int32))) >>> (Int32.toUInt32 (2 : Int32) &&& Int32.toUInt32 31)).toInt32) &&& (858993459 : Int32))) + ((Int32.toUInt32 (((a0 - (((Int32.toUInt32 a0 >>> (Int32.toUInt32 (1 : Int32) &&& Int32.toUInt32 31)).toInt32) &&& (1431655765 : Int32))) &&& (858993459 : Int32)) + (((Int32.toUInt32 (a0 - (((Int32.toUInt32 a0 >>> (Int32.toUInt32 (1 : Int32) &&& Int32.toUInt32 31)).toInt32) &&& (1431655765 : Int32))) >>> (Int32.toUInt32 (2 : Int32) &&& Int32.toUInt32 31)).toInt32) &&& (858993459 : Int32))) >>> (Int32.toUInt32 (4 : Int32) &&& Int32.toUInt32 31)).toInt32)) &&& (252645135 : Int32)) + ((Int32.toUInt32 (((((a0 - (((Int32.toUInt32 a0 >>> (Int32.toUInt32 (1 : Int32) &&& Int32.toUInt32 31)).toInt32) &&& (1431655765 : Int32))) &&& (858993459 : Int32)) + (((Int32.toUInt32 (a0 - (((Int32.toUInt32 a0 >>> (Int32.toUInt32 (1 : Int32) &&& Int32.toUInt32 31)).toInt32) &&& (1431655765 : Int32))) >>> (Int32.toUInt32 (2 : Int32) &&& Int32.toUInt32 31)).toInt32) &&& (858993459 : Int32))) + ((Int32.toUInt32 (((a0 - (((Int32.toUInt32 a0 >>> (Int32.toUInt32 (1 : Int32) &&& Int32.toUInt32 31)).toInt32) &&& (1431655765 : Int32))) &&& (858993459 : Int32)) + (((Int32.toUInt32 (a0 - (((Int32.toUInt32 a0 >>> (Int32.toUInt32 (1 : Int32) &&& Int32.toUInt32 31)).toInt32) &&& (1431655765 : Int32))) >>> (Int32.toUInt32 (2 : Int32) &&& Int32.toUInt32 31)).toInt32) &&& (858993459 : Int32))) >>> (Int32.toUInt32 (4 : Int32) &&& Int32.toUInt32 31)).toInt32)) &&& (252645135 : Int32)) >>> (Int32.toUInt32 (8 : Int32) &&& Int32.toUInt32 31)).toInt32)))]) dJ6_bitCount_0f7a4_40 (by decide) rfl ?_
  refine G.iload_n dJ6_bitCount_0f7a4_41 rfl ?_
  refine G.iload_n dJ6_bitCount_0f7a4_42 rfl ?_
  refine G.bipush (v := (16 : Int32)) dJ6_bitCount_0f7a4_43 (by decide) ?_
  refine G.iushr dJ6_bitCount_0f7a4_45 ?_
  refine G.iadd dJ6_bitCount_0f7a4_46 ?_
  refine G.istore_n (lv' := [(0, .int (((((((a0 - (((Int32.toUInt32 a0 >>> (Int32.toUInt32 (1 : Int32) &&& Int32.toUInt32 31)).toInt32) &&& (1431655765 : Int32))) &&& (858993459 : Int32)) + (((Int32.toUInt32 (a0 - (((Int32.toUInt32 a0 >>> (Int32.toUInt32 (1 : Int32) &&& Int32.toUInt32 31)).toInt32) &&& (1431655765 : Int32))) >>> (Int32.toUInt32 (2 : Int32) &&& Int32.toUInt32 31)).toInt32) &&& (858993459 : Int32))) + ((Int32.toUInt32 (((a0 - (((Int32.toUInt32 a0 >>> (Int32.toUInt32 (1 : Int32) &&& Int32.toUInt32 31)).toInt32) &&& (1431655765 : Int32))) &&& (858993459 : Int32)) + (((Int32.toUInt32 (a0 - (((Int32.toUInt32 a0 >>> (Int32.toUInt32 (1 : Int32) &&& Int32.toUInt32 31)).toInt32) &&& (1431655765 : Int32))) >>> (Int32.toUInt32 (2 : Int32) &&& Int32.toUInt32 31)).toInt32) &&& (858993459 : Int32))) >>> (Int32.toUInt32 (4 : Int32) &&& Int32.toUInt32 31)).toInt32)) &&& (252645135 : Int32)) + ((Int32.toUInt32 (((((a0 - (((Int32.toUInt32 a0 >>> (Int32.toUInt32 (1 : Int32) &&& Int32.toUInt32 31)).toInt32) &&& (1431655765 : Int32))) &&& (858993459 : Int32)) + (((Int32.toUInt32 (a0 - (((Int32.toUInt32 a0 >>> (Int32.toUInt32 (1 : Int32) &&& Int32.toUInt32 31)).toInt32) &&& (1431655765 : Int32))) >>> (Int32.toUInt32 (2 : Int32) &&& Int32.toUInt32 31)).toInt32) &&& (858993459 : Int32))) + ((Int32.toUInt32 (((a0 - (((Int32.toUInt32 a0 >>> (Int32.toUInt32 (1 : Int32) &&& Int32.toUInt32 31)).toInt32) &&& (1431655765 : Int32))) &&& (858993459 : Int32)) + (((Int32.toUInt32 (a0 - (((Int32.toUInt32 a0 >>> (Int32.toUInt32 (1 : Int32) &&& Int32.toUInt32 31)).toInt32) &&& (1431655765 : Int32))) >>> (Int32.toUInt32 (2 : Int32) &&& Int32.toUInt32 31)).toInt32) &&& (858993459 : Int32))) >>> (Int32.toUInt32 (4 : Int32) &&& Int32.toUInt32 31)).toInt32)) &&& (252645135 : Int32)) >>> (Int32.toUInt32 (8 : Int32) &&& Int32.toUInt32 31)).toInt32)) + ((Int32.toUInt32 ((((((a0 - (((Int32.toUInt32 a0 >>> (Int32.toUInt32 (1 : Int32) &&& Int32.toUInt32 31)).toInt32) &&& (1431655765 : Int32))) &&& (858993459 : Int32)) + (((Int32.toUInt32 (a0 - (((Int32.toUInt32 a0 >>> (Int32.toUInt32 (1 : Int32) &&& Int32.toUInt32 31)).toInt32) &&& (1431655765 : Int32))) >>> (Int32.toUInt32 (2 : Int32) &&& Int32.toUInt32 31)).toInt32) &&& (858993459 : Int32))) + ((Int32.toUInt32 (((a0 - (((Int32.toUInt32 a0 >>> (Int32.toUInt32 (1 : Int32) &&& Int32.toUInt32 31)).toInt32) &&& (1431655765 : Int32))) &&& (858993459 : Int32)) + (((Int32.toUInt32 (a0 - (((Int32.toUInt32 a0 >>> (Int32.toUInt32 (1 : Int32) &&& Int32.toUInt32 31)).toInt32) &&& (1431655765 : Int32))) >>> (Int32.toUInt32 (2 : Int32) &&& Int32.toUInt32 31)).toInt32) &&& (858993459 : Int32))) >>> (Int32.toUInt32 (4 : Int32) &&& Int32.toUInt32 31)).toInt32)) &&& (252645135 : Int32)) + ((Int32.toUInt32 (((((a0 - (((Int32.toUInt32 a0 >>> (Int32.toUInt32 (1 : Int32) &&& Int32.toUInt32 31)).toInt32) &&& (1431655765 : Int32))) &&& (858993459 : Int32)) + (((Int32.toUInt32 (a0 - (((Int32.toUInt32 a0 >>> (Int32.toUInt32 (1 : Int32) &&& Int32.toUInt32 31)).toInt32) &&& (1431655765 : Int32))) >>> (Int32.toUInt32 (2 : Int32) &&& Int32.toUInt32 31)).toInt32) &&& (858993459 : Int32))) + ((Int32.toUInt32 (((a0 - (((Int32.toUInt32 a0 >>> (Int32.toUInt32 (1 : Int32) &&& Int32.toUInt32 31)).toInt32) &&& (1431655765 : Int32))) &&& (858993459 : Int32)) + (((Int32.toUInt32 (a0 - (((Int32.toUInt32 a0 >>> (Int32.toUInt32 (1 : Int32) &&& Int32.toUInt32 31)).toInt32) &&& (1431655765 : Int32))) >>> (Int32.toUInt32 (2 : Int32) &&& Int32.toUInt32 31)).toInt32) &&& (858993459 : Int32))) >>> (Int32.toUInt32 (4 : Int32) &&& Int32.toUInt32 31)).toInt32)) &&& (252645135 : Int32)) >>> (Int32.toUInt32 (8 : Int32) &&& Int32.toUInt32 31)).toInt32)) >>> (Int32.toUInt32 (16 : Int32) &&& Int32.toUInt32 31)).toInt32)))]) dJ6_bitCount_0f7a4_47 (by decide) rfl ?_
  refine G.iload_n dJ6_bitCount_0f7a4_48 rfl ?_
  refine G.bipush (v := (63 : Int32)) dJ6_bitCount_0f7a4_49 (by decide) ?_
  refine G.iand dJ6_bitCount_0f7a4_51 ?_
  obtain ⟨hq1, hq2⟩ := Prod.mk.inj (Option.some.inj hf)
  subst hq1
  subst hq2
  exact G.iret rfl rfl dJ6_bitCount_0f7a4_52
/-! X11_owingAtLeast -/
theorem dX11_owingAtLeast_0 : decode cX11_owingAtLeast 0 = .ok (.iconst 0, 1) := by decide +kernel
theorem dX11_owingAtLeast_1 : decode cX11_owingAtLeast 1 = .ok (.istore_n 3, 1) := by decide +kernel
theorem dX11_owingAtLeast_2 : decode cX11_owingAtLeast 2 = .ok (.iconst 0, 1) := by decide +kernel
theorem dX11_owingAtLeast_3 : decode cX11_owingAtLeast 3 = .ok (.istore 4, 2) := by decide +kernel
theorem dX11_owingAtLeast_5 : decode cX11_owingAtLeast 5 = .ok (.iload 4, 2) := by decide +kernel
theorem dX11_owingAtLeast_7 : decode cX11_owingAtLeast 7 = .ok (.bipush 6, 2) := by decide +kernel
theorem dX11_owingAtLeast_9 : decode cX11_owingAtLeast 9 = .ok (.if_icmp .ge 32, 3) := by decide +kernel
theorem dX11_owingAtLeast_12 : decode cX11_owingAtLeast 12 = .ok (.iload_n 1, 1) := by decide +kernel
theorem dX11_owingAtLeast_13 : decode cX11_owingAtLeast 13 = .ok (.iload 4, 2) := by decide +kernel
theorem dX11_owingAtLeast_15 : decode cX11_owingAtLeast 15 = .ok (.ishr, 1) := by decide +kernel
theorem dX11_owingAtLeast_16 : decode cX11_owingAtLeast 16 = .ok (.iconst 1, 1) := by decide +kernel
theorem dX11_owingAtLeast_17 : decode cX11_owingAtLeast 17 = .ok (.iand, 1) := by decide +kernel
theorem dX11_owingAtLeast_18 : decode cX11_owingAtLeast 18 = .ok (.ifCond .eq 17, 3) := by decide +kernel
theorem dX11_owingAtLeast_21 : decode cX11_owingAtLeast 21 = .ok (.aload_n 2, 1) := by decide +kernel
theorem dX11_owingAtLeast_22 : decode cX11_owingAtLeast 22 = .ok (.getfield 38, 3) := by decide +kernel
theorem dX11_owingAtLeast_25 : decode cX11_owingAtLeast 25 = .ok (.iload 4, 2) := by decide +kernel
theorem dX11_owingAtLeast_27 : decode cX11_owingAtLeast 27 = .ok (.iaload, 1) := by decide +kernel
theorem dX11_owingAtLeast_28 : decode cX11_owingAtLeast 28 = .ok (.iload_n 0, 1) := by decide +kernel
theorem dX11_owingAtLeast_29 : decode cX11_owingAtLeast 29 = .ok (.if_icmp .lt 6, 3) := by decide +kernel
theorem dX11_owingAtLeast_32 : decode cX11_owingAtLeast 32 = .ok (.iinc 3 1, 3) := by decide +kernel
theorem dX11_owingAtLeast_35 : decode cX11_owingAtLeast 35 = .ok (.iinc 4 1, 3) := by decide +kernel
theorem dX11_owingAtLeast_38 : decode cX11_owingAtLeast 38 = .ok (.goto (-33), 3) := by decide +kernel
theorem dX11_owingAtLeast_41 : decode cX11_owingAtLeast 41 = .ok (.iload_n 3, 1) := by decide +kernel
theorem dX11_owingAtLeast_42 : decode cX11_owingAtLeast 42 = .ok (.ireturn, 1) := by decide +kernel
def F_X11_owingAtLeast_L5 (rec : Int32 → Int32 → Nat → Int32 → Int32 → AH → Option (Int32 × AH)) (v0 : Int32) (v1 : Int32) (v2 : Nat) (v3 : Int32) (v4 : Int32) (h : AH) : Option (Int32 × AH) := if (6 : Int32) ≤ v4 then (some (v3, h)) else (if ((v1 >>> (v4 &&& 31)) &&& (1 : Int32)) = 0 then (rec v0 v1 v2 v3 (v4 + 1) h) else ((gr h 4 v2 1).bind fun r3 => (ai h 0 r3 v4).bind fun x4 => if x4 < v0 then (rec v0 v1 v2 v3 (v4 + 1) h) else (rec v0 v1 v2 (v3 + 1) (v4 + 1) h)))
def f_X11_owingAtLeast_L5 : Nat → Int32 → Int32 → Nat → Int32 → Int32 → AH → Option (Int32 × AH)
  | 0 => fun _ _ _ _ _ _ => none
  | n + 1 => F_X11_owingAtLeast_L5 (f_X11_owingAtLeast_L5 n)
set_option maxRecDepth 100000 in
set_option maxHeartbeats 4000000 in
theorem lx_X11_owingAtLeast_L5 (X : SX) (d : Nat) : ∀ n (rv : Option Int32) (h' : AH), ∀ (v0 : Int32) (v1 : Int32) (v2 : Nat) (v3 : Int32) (v4 : Int32) (h : AH) (y3 : Int32) (h1 : AH), f_X11_owingAtLeast_L5 n v0 v1 v2 v3 v4 h = some (y3, h1) → G X mX11_owingAtLeast d 41 [(3, .int y3)] [] h1 rv h' → G X mX11_owingAtLeast d 5 [(0, .int v0), (1, .int v1), (2, .ref v2), (3, .int v3), (4, .int v4)] [] h rv h' := by
  intro n
  induction n with
  | zero =>
    intro rv h' v0 v1 v2 v3 v4 h y3 h1 hf hE
    cases hf
  | succ n ihf =>
    intro rv h' v0 v1 v2 v3 v4 h y3 h1 hf hE
    replace hf : F_X11_owingAtLeast_L5 (f_X11_owingAtLeast_L5 n) v0 v1 v2 v3 v4 h = some (y3, h1) := hf
    unfold F_X11_owingAtLeast_L5 at hf
    have ih := ihf rv h'
    refine G.iload dX11_owingAtLeast_5 rfl ?_
    refine G.bipush (v := (6 : Int32)) dX11_owingAtLeast_7 (by decide) ?_
    refine G.icmp_ge 41 dX11_owingAtLeast_9 (by decide) (fun c1 => ?_) (fun c1 => ?_)
    · rw [if_pos c1] at hf
      obtain ⟨u0, w1⟩ := Prod.mk.inj (Option.some.inj hf)
      subst u0
      subst w1
      exact G.pick [3] rfl hE
    · rw [if_neg c1] at hf
      refine G.iload_n dX11_owingAtLeast_12 rfl ?_
      refine G.iload dX11_owingAtLeast_13 rfl ?_
      refine G.ishr dX11_owingAtLeast_15 ?_
      refine G.iconst (v := (1 : Int32)) dX11_owingAtLeast_16 (by decide) ?_
      refine G.iand dX11_owingAtLeast_17 ?_
      refine G.if_eq 35 dX11_owingAtLeast_18 (by decide) (fun c2 => ?_) (fun c2 => ?_)
      · rw [if_pos c2] at hf
        refine G.iinc (v := (v4 + 1)) (lv' := [(4, .int (v4 + 1)), (0, .int v0), (1, .int v1), (2, .ref v2), (3, .int v3)]) dX11_owingAtLeast_35 rfl rfl (by decide) rfl ?_
        refine G.goto 5 dX11_owingAtLeast_38 (by decide) ?_
        exact G.pick [1, 2, 3, 4, 0] rfl (ih v0 v1 v2 v3 (v4 + 1) h _ _ hf hE)
      · rw [if_neg c2] at hf
        refine G.aload_n dX11_owingAtLeast_21 rfl ?_
        refine G.getr flX11_38 dX11_owingAtLeast_22 hf (fun r3 hf => ?_)
        refine G.iload dX11_owingAtLeast_25 rfl ?_
        refine G.iald dX11_owingAtLeast_27 hf (fun x4 hf => ?_)
        refine G.iload_n dX11_owingAtLeast_28 rfl ?_
        refine G.icmp_lt 35 dX11_owingAtLeast_29 (by decide) (fun c5 => ?_) (fun c5 => ?_)
        · rw [if_pos c5] at hf
          refine G.iinc (v := (v4 + 1)) (lv' := [(4, .int (v4 + 1)), (0, .int v0), (1, .int v1), (2, .ref v2), (3, .int v3)]) dX11_owingAtLeast_35 rfl rfl (by decide) rfl ?_
          refine G.goto 5 dX11_owingAtLeast_38 (by decide) ?_
          exact G.pick [1, 2, 3, 4, 0] rfl (ih v0 v1 v2 v3 (v4 + 1) h _ _ hf hE)
        · rw [if_neg c5] at hf
          refine G.iinc (v := (v3 + 1)) (lv' := [(3, .int (v3 + 1)), (0, .int v0), (1, .int v1), (2, .ref v2), (4, .int v4)]) dX11_owingAtLeast_32 rfl rfl (by decide) rfl ?_
          refine G.iinc (v := (v4 + 1)) (lv' := [(4, .int (v4 + 1)), (3, .int (v3 + 1)), (0, .int v0), (1, .int v1), (2, .ref v2)]) dX11_owingAtLeast_35 rfl rfl (by decide) rfl ?_
          refine G.goto 5 dX11_owingAtLeast_38 (by decide) ?_
          exact G.pick [2, 3, 4, 1, 0] rfl (ih v0 v1 v2 (v3 + 1) (v4 + 1) h _ _ hf hE)
theorem l_X11_owingAtLeast_L5 (X : SX) (d : Nat) (rv : Option Int32) (h' : AH) (n : Nat) : ∀ (v0 : Int32) (v1 : Int32) (v2 : Nat) (v3 : Int32) (v4 : Int32) (h : AH) (y3 : Int32) (h1 : AH), f_X11_owingAtLeast_L5 n v0 v1 v2 v3 v4 h = some (y3, h1) → G X mX11_owingAtLeast d 41 [(3, .int y3)] [] h1 rv h' → G X mX11_owingAtLeast d 5 [(0, .int v0), (1, .int v1), (2, .ref v2), (3, .int v3), (4, .int v4)] [] h rv h' := lx_X11_owingAtLeast_L5 X d n rv h'
def f_X11_owingAtLeast (a0 : Int32) (a1 : Int32) (a2 : Nat) (h : AH) : Option (Int32 × AH) := bT1 (f_X11_owingAtLeast_L5 1000000 a0 a1 a2 (0 : Int32) (0 : Int32) h) fun y3 h1 => some (y3, h1)
set_option maxRecDepth 100000 in
set_option maxHeartbeats 4000000 in
theorem c_X11_owingAtLeast (X : SX) (d : Nat) (a0 : Int32) (a1 : Int32) (a2 : Nat) (h : AH) (rr : Int32) (h' : AH) (hf : f_X11_owingAtLeast a0 a1 a2 h = some (rr, h')) : G X mX11_owingAtLeast d 0 [(0, .int a0), (1, .int a1), (2, .ref a2)] [] h (some rr) h' := by
  unfold f_X11_owingAtLeast at hf
  refine G.iconst (v := (0 : Int32)) dX11_owingAtLeast_0 (by decide) ?_
  refine G.istore_n (lv' := [(3, .int (0 : Int32)), (0, .int a0), (1, .int a1), (2, .ref a2)]) dX11_owingAtLeast_1 (by decide) rfl ?_
  refine G.iconst (v := (0 : Int32)) dX11_owingAtLeast_2 (by decide) ?_
  refine G.istore (lv' := [(4, .int (0 : Int32)), (3, .int (0 : Int32)), (0, .int a0), (1, .int a1), (2, .ref a2)]) dX11_owingAtLeast_3 (by decide) rfl ?_
  obtain ⟨y3, h1, e2, hf⟩ := bT1_spec hf
  refine G.pick [2, 3, 4, 1, 0] rfl (l_X11_owingAtLeast_L5 X d _ _ 1000000 a0 a1 a2 (0 : Int32) (0 : Int32) h y3 h1 e2 ?_)
  refine G.iload_n dX11_owingAtLeast_41 rfl ?_
  obtain ⟨hq1, hq2⟩ := Prod.mk.inj (Option.some.inj hf)
  subst hq1
  subst hq2
  exact G.iret rfl rfl dX11_owingAtLeast_42
/-! X11_bestQuestion -/
theorem dX11_bestQuestion_0 : decode cX11_bestQuestion 0 = .ok (.aload_n 0, 1) := by decide +kernel
theorem dX11_bestQuestion_1 : decode cX11_bestQuestion 1 = .ok (.aload_n 1, 1) := by decide +kernel
theorem dX11_bestQuestion_2 : decode cX11_bestQuestion 2 = .ok (.invokevirtual 47, 3) := by decide +kernel
theorem dX11_bestQuestion_5 : decode cX11_bestQuestion 5 = .ok (.istore_n 2, 1) := by decide +kernel
theorem dX11_bestQuestion_6 : decode cX11_bestQuestion 6 = .ok (.iload_n 2, 1) := by decide +kernel
theorem dX11_bestQuestion_7 : decode cX11_bestQuestion 7 = .ok (.invokestatic 51, 3) := by decide +kernel
theorem dX11_bestQuestion_10 : decode cX11_bestQuestion 10 = .ok (.istore_n 3, 1) := by decide +kernel
theorem dX11_bestQuestion_11 : decode cX11_bestQuestion 11 = .ok (.iconst (-1), 1) := by decide +kernel
theorem dX11_bestQuestion_12 : decode cX11_bestQuestion 12 = .ok (.istore 4, 2) := by decide +kernel
theorem dX11_bestQuestion_14 : decode cX11_bestQuestion 14 = .ok (.iload_n 3, 1) := by decide +kernel
theorem dX11_bestQuestion_15 : decode cX11_bestQuestion 15 = .ok (.istore 5, 2) := by decide +kernel
theorem dX11_bestQuestion_17 : decode cX11_bestQuestion 17 = .ok (.iconst 1, 1) := by decide +kernel
theorem dX11_bestQuestion_18 : decode cX11_bestQuestion 18 = .ok (.istore 6, 2) := by decide +kernel
theorem dX11_bestQuestion_20 : decode cX11_bestQuestion 20 = .ok (.iload 6, 2) := by decide +kernel
theorem dX11_bestQuestion_22 : decode cX11_bestQuestion 22 = .ok (.sipush 198, 3) := by decide +kernel
theorem dX11_bestQuestion_25 : decode cX11_bestQuestion 25 = .ok (.if_icmp .gt 47, 3) := by decide +kernel
theorem dX11_bestQuestion_28 : decode cX11_bestQuestion 28 = .ok (.iload 6, 2) := by decide +kernel
theorem dX11_bestQuestion_30 : decode cX11_bestQuestion 30 = .ok (.iload_n 2, 1) := by decide +kernel
theorem dX11_bestQuestion_31 : decode cX11_bestQuestion 31 = .ok (.aload_n 1, 1) := by decide +kernel
theorem dX11_bestQuestion_32 : decode cX11_bestQuestion 32 = .ok (.getfield 34, 3) := by decide +kernel
theorem dX11_bestQuestion_35 : decode cX11_bestQuestion 35 = .ok (.invokestatic 57, 3) := by decide +kernel
theorem dX11_bestQuestion_38 : decode cX11_bestQuestion 38 = .ok (.istore 7, 2) := by decide +kernel
theorem dX11_bestQuestion_40 : decode cX11_bestQuestion 40 = .ok (.iload 7, 2) := by decide +kernel
theorem dX11_bestQuestion_42 : decode cX11_bestQuestion 42 = .ok (.iload_n 3, 1) := by decide +kernel
theorem dX11_bestQuestion_43 : decode cX11_bestQuestion 43 = .ok (.iload 7, 2) := by decide +kernel
theorem dX11_bestQuestion_45 : decode cX11_bestQuestion 45 = .ok (.isub, 1) := by decide +kernel
theorem dX11_bestQuestion_46 : decode cX11_bestQuestion 46 = .ok (.invokestatic 61, 3) := by decide +kernel
theorem dX11_bestQuestion_49 : decode cX11_bestQuestion 49 = .ok (.istore 8, 2) := by decide +kernel
theorem dX11_bestQuestion_51 : decode cX11_bestQuestion 51 = .ok (.iload 8, 2) := by decide +kernel
theorem dX11_bestQuestion_53 : decode cX11_bestQuestion 53 = .ok (.iload 5, 2) := by decide +kernel
theorem dX11_bestQuestion_55 : decode cX11_bestQuestion 55 = .ok (.if_icmp .ge 11, 3) := by decide +kernel
theorem dX11_bestQuestion_58 : decode cX11_bestQuestion 58 = .ok (.iload 8, 2) := by decide +kernel
theorem dX11_bestQuestion_60 : decode cX11_bestQuestion 60 = .ok (.istore 5, 2) := by decide +kernel
theorem dX11_bestQuestion_62 : decode cX11_bestQuestion 62 = .ok (.iload 6, 2) := by decide +kernel
theorem dX11_bestQuestion_64 : decode cX11_bestQuestion 64 = .ok (.istore 4, 2) := by decide +kernel
theorem dX11_bestQuestion_66 : decode cX11_bestQuestion 66 = .ok (.iinc 6 1, 3) := by decide +kernel
theorem dX11_bestQuestion_69 : decode cX11_bestQuestion 69 = .ok (.goto (-49), 3) := by decide +kernel
theorem dX11_bestQuestion_72 : decode cX11_bestQuestion 72 = .ok (.iload 4, 2) := by decide +kernel
theorem dX11_bestQuestion_74 : decode cX11_bestQuestion 74 = .ok (.ireturn, 1) := by decide +kernel
def F_X11_bestQuestion_L20 (rec : Nat → Int32 → Int32 → Int32 → Int32 → Int32 → AH → Option (Int32 × AH)) (v1 : Nat) (v2 : Int32) (v3 : Int32) (v4 : Int32) (v5 : Int32) (v6 : Int32) (h : AH) : Option (Int32 × AH) := if (198 : Int32) < v6 then (some (v4, h)) else ((gr h 3 v1 0).bind fun r2 => bT1 (f_X11_owingAtLeast v6 v2 r2 h) fun x5 h3 => if v5 ≤ (if x5 < (v3 - x5) then (v3 - x5) else x5) then (rec v1 v2 v3 v4 v5 (v6 + 1) h3) else (rec v1 v2 v3 v6 (if x5 < (v3 - x5) then (v3 - x5) else x5) (v6 + 1) h3))
def f_X11_bestQuestion_L20 : Nat → Nat → Int32 → Int32 → Int32 → Int32 → Int32 → AH → Option (Int32 × AH)
  | 0 => fun _ _ _ _ _ _ _ => none
  | n + 1 => F_X11_bestQuestion_L20 (f_X11_bestQuestion_L20 n)
set_option maxRecDepth 100000 in
set_option maxHeartbeats 4000000 in
theorem lx_X11_bestQuestion_L20 (X : SX) (d : Nat) : ∀ n (rv : Option Int32) (h' : AH), ∀ (v1 : Nat) (v2 : Int32) (v3 : Int32) (v4 : Int32) (v5 : Int32) (v6 : Int32) (h : AH) (y4 : Int32) (h1 : AH), f_X11_bestQuestion_L20 n v1 v2 v3 v4 v5 v6 h = some (y4, h1) → G X mX11_bestQuestion (d + 2) 72 [(4, .int y4)] [] h1 rv h' → G X mX11_bestQuestion (d + 2) 20 [(1, .ref v1), (2, .int v2), (3, .int v3), (4, .int v4), (5, .int v5), (6, .int v6)] [] h rv h' := by
  intro n
  induction n with
  | zero =>
    intro rv h' v1 v2 v3 v4 v5 v6 h y4 h1 hf hE
    cases hf
  | succ n ihf =>
    intro rv h' v1 v2 v3 v4 v5 v6 h y4 h1 hf hE
    replace hf : F_X11_bestQuestion_L20 (f_X11_bestQuestion_L20 n) v1 v2 v3 v4 v5 v6 h = some (y4, h1) := hf
    unfold F_X11_bestQuestion_L20 at hf
    have ih := ihf rv h'
    refine G.iload dX11_bestQuestion_20 rfl ?_
    refine G.sipush (v := (198 : Int32)) dX11_bestQuestion_22 (by decide) ?_
    refine G.icmp_gt 72 dX11_bestQuestion_25 (by decide) (fun c1 => ?_) (fun c1 => ?_)
    · rw [if_pos c1] at hf
      obtain ⟨u0, w1⟩ := Prod.mk.inj (Option.some.inj hf)
      subst u0
      subst w1
      exact G.pick [3] rfl hE
    · rw [if_neg c1] at hf
      refine G.iload dX11_bestQuestion_28 rfl ?_
      refine G.iload_n dX11_bestQuestion_30 rfl ?_
      refine G.aload_n dX11_bestQuestion_31 rfl ?_
      refine G.getr flX11_34 dX11_bestQuestion_32 hf (fun r2 hf => ?_)
      obtain ⟨x5, h3, e4, hf⟩ := bT1_spec hf
      refine G.callSi (M' := mX11_owingAtLeast) (As := [.int v6, .int v2, .ref r2]) (st := []) okX11_owingAtLeast vsX11_owingAtLeast lkX11_57 rfl (Nat.le_of_ble_eq_true rfl) (Nat.le_of_ble_eq_true rfl) dX11_bestQuestion_35 (c_X11_owingAtLeast X (d + 1) _ _ _ _ _ _ e4) ?_
      refine G.istore (lv' := [(7, .int x5), (1, .ref v1), (2, .int v2), (3, .int v3), (4, .int v4), (5, .int v5), (6, .int v6)]) dX11_bestQuestion_38 (by decide) rfl ?_
      refine G.iload dX11_bestQuestion_40 rfl ?_
      refine G.iload_n dX11_bestQuestion_42 rfl ?_
      refine G.iload dX11_bestQuestion_43 rfl ?_
      refine G.isub dX11_bestQuestion_45 ?_
      refine G.max lkX11_61 (Nat.le_of_ble_eq_true rfl) dX11_bestQuestion_46 ?_
      refine G.istore (lv' := [(8, .int (if x5 < (v3 - x5) then (v3 - x5) else x5)), (7, .int x5), (1, .ref v1), (2, .int v2), (3, .int v3), (4, .int v4), (5, .int v5), (6, .int v6)]) dX11_bestQuestion_49 (by decide) rfl ?_
      refine G.iload dX11_bestQuestion_51 rfl ?_
      refine G.iload dX11_bestQuestion_53 rfl ?_
      refine G.icmp_ge 66 dX11_bestQuestion_55 (by decide) (fun c6 => ?_) (fun c6 => ?_)
      · rw [if_pos c6] at hf
        refine G.iinc (v := (v6 + 1)) (lv' := [(6, .int (v6 + 1)), (8, .int (if x5 < (v3 - x5) then (v3 - x5) else x5)), (7, .int x5), (1, .ref v1), (2, .int v2), (3, .int v3), (4, .int v4), (5, .int v5)]) dX11_bestQuestion_66 rfl rfl (by decide) rfl ?_
        refine G.goto 20 dX11_bestQuestion_69 (by decide) ?_
        exact G.pick [3, 4, 5, 6, 7, 0] rfl (ih v1 v2 v3 v4 v5 (v6 + 1) h3 _ _ hf hE)
      · rw [if_neg c6] at hf
        refine G.iload dX11_bestQuestion_58 rfl ?_
        refine G.istore (lv' := [(5, .int (if x5 < (v3 - x5) then (v3 - x5) else x5)), (8, .int (if x5 < (v3 - x5) then (v3 - x5) else x5)), (7, .int x5), (1, .ref v1), (2, .int v2), (3, .int v3), (4, .int v4), (6, .int v6)]) dX11_bestQuestion_60 (by decide) rfl ?_
        refine G.iload dX11_bestQuestion_62 rfl ?_
        refine G.istore (lv' := [(4, .int v6), (5, .int (if x5 < (v3 - x5) then (v3 - x5) else x5)), (8, .int (if x5 < (v3 - x5) then (v3 - x5) else x5)), (7, .int x5), (1, .ref v1), (2, .int v2), (3, .int v3), (6, .int v6)]) dX11_bestQuestion_64 (by decide) rfl ?_
        refine G.iinc (v := (v6 + 1)) (lv' := [(6, .int (v6 + 1)), (4, .int v6), (5, .int (if x5 < (v3 - x5) then (v3 - x5) else x5)), (8, .int (if x5 < (v3 - x5) then (v3 - x5) else x5)), (7, .int x5), (1, .ref v1), (2, .int v2), (3, .int v3)]) dX11_bestQuestion_66 rfl rfl (by decide) rfl ?_
        refine G.goto 20 dX11_bestQuestion_69 (by decide) ?_
        exact G.pick [5, 6, 7, 1, 2, 0] rfl (ih v1 v2 v3 v6 (if x5 < (v3 - x5) then (v3 - x5) else x5) (v6 + 1) h3 _ _ hf hE)
theorem l_X11_bestQuestion_L20 (X : SX) (d : Nat) (rv : Option Int32) (h' : AH) (n : Nat) : ∀ (v1 : Nat) (v2 : Int32) (v3 : Int32) (v4 : Int32) (v5 : Int32) (v6 : Int32) (h : AH) (y4 : Int32) (h1 : AH), f_X11_bestQuestion_L20 n v1 v2 v3 v4 v5 v6 h = some (y4, h1) → G X mX11_bestQuestion (d + 2) 72 [(4, .int y4)] [] h1 rv h' → G X mX11_bestQuestion (d + 2) 20 [(1, .ref v1), (2, .int v2), (3, .int v3), (4, .int v4), (5, .int v5), (6, .int v6)] [] h rv h' := lx_X11_bestQuestion_L20 X d n rv h'
def f_X11_bestQuestion (a0 : Nat) (a1 : Nat) (h : AH) : Option (Int32 × AH) := if isO h 10 a0 = true then (bT1 (f_X11_fitting a0 a1 h) fun x3 h1 => bT1 (f_J6_bitCount_0f7a4 x3 h1) fun x6 h4 => bT1 (f_X11_bestQuestion_L20 1000000 a1 x3 x6 (-1 : Int32) x6 (1 : Int32) h4) fun y9 h7 => some (y9, h7)) else none
set_option maxRecDepth 100000 in
set_option maxHeartbeats 4000000 in
theorem c_X11_bestQuestion (X : SX) (d : Nat) (a0 : Nat) (a1 : Nat) (h : AH) (rr : Int32) (h' : AH) (hf : f_X11_bestQuestion a0 a1 h = some (rr, h')) : isO h 10 a0 = true ∧ G X mX11_bestQuestion (d + 2) 0 [(0, .ref a0), (1, .ref a1)] [] h (some rr) h' := by
  unfold f_X11_bestQuestion at hf
  by_cases ho : isO h 10 a0 = true
  · rw [if_pos ho] at hf
    refine ⟨ho, ?_⟩
    refine G.aload_n dX11_bestQuestion_0 rfl ?_
    refine G.aload_n dX11_bestQuestion_1 rfl ?_
    obtain ⟨x3, h1, e2, hf⟩ := bT1_spec hf
    refine G.callVi (M' := mX11_fitting) (ci := 10) (As := [.ref a1]) (st := []) okX11_fitting viX11_fitting lkX11_47 rfl rfl rfl (Nat.le_of_ble_eq_true rfl) (Nat.le_of_ble_eq_true rfl) dX11_bestQuestion_2 (c_X11_fitting X d _ _ _ _ _ e2).1 (c_X11_fitting X d _ _ _ _ _ e2).2 ?_
    refine G.istore_n (lv' := [(2, .int x3), (0, .ref a0), (1, .ref a1)]) dX11_bestQuestion_5 (by decide) rfl ?_
    refine G.iload_n dX11_bestQuestion_6 rfl ?_
    obtain ⟨x6, h4, e5, hf⟩ := bT1_spec hf
    refine G.callSi (M' := mJ6_bitCount_0f7a4) (As := [.int x3]) (st := []) okJ6_bitCount_0f7a4 vsJ6_bitCount_0f7a4 lkX11_51 rfl (Nat.le_of_ble_eq_true rfl) (Nat.le_of_ble_eq_true rfl) dX11_bestQuestion_7 (c_J6_bitCount_0f7a4 X (d + 1) _ _ _ _ e5) ?_
    refine G.istore_n (lv' := [(3, .int x6), (2, .int x3), (0, .ref a0), (1, .ref a1)]) dX11_bestQuestion_10 (by decide) rfl ?_
    refine G.iconst (v := (-1 : Int32)) dX11_bestQuestion_11 (by decide) ?_
    refine G.istore (lv' := [(4, .int (-1 : Int32)), (3, .int x6), (2, .int x3), (0, .ref a0), (1, .ref a1)]) dX11_bestQuestion_12 (by decide) rfl ?_
    refine G.iload_n dX11_bestQuestion_14 rfl ?_
    refine G.istore (lv' := [(5, .int x6), (4, .int (-1 : Int32)), (3, .int x6), (2, .int x3), (0, .ref a0), (1, .ref a1)]) dX11_bestQuestion_15 (by decide) rfl ?_
    refine G.iconst (v := (1 : Int32)) dX11_bestQuestion_17 (by decide) ?_
    refine G.istore (lv' := [(6, .int (1 : Int32)), (5, .int x6), (4, .int (-1 : Int32)), (3, .int x6), (2, .int x3), (0, .ref a0), (1, .ref a1)]) dX11_bestQuestion_18 (by decide) rfl ?_
    obtain ⟨y9, h7, e8, hf⟩ := bT1_spec hf
    refine G.pick [6, 4, 3, 2, 1, 0] rfl (l_X11_bestQuestion_L20 X d _ _ 1000000 a1 x3 x6 (-1 : Int32) x6 (1 : Int32) h4 y9 h7 e8 ?_)
    refine G.iload dX11_bestQuestion_72 rfl ?_
    obtain ⟨hq1, hq2⟩ := Prod.mk.inj (Option.some.inj hf)
    subst hq1
    subst hq2
    exact G.iret rfl rfl dX11_bestQuestion_74
  · rw [if_neg ho] at hf
    cases hf
