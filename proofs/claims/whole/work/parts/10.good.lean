theorem d_L_law_0 : decode (tm_c 0) 0 = .ok (.new 7, 3) := by decide +kernel
theorem d_L_law_3 : decode (tm_c 0) 3 = .ok (.dup, 1) := by decide +kernel
theorem d_L_law_4 : decode (tm_c 0) 4 = .ok (.invokespecial 9, 3) := by decide +kernel
theorem d_L_law_7 : decode (tm_c 0) 7 = .ok (.astore_n 1, 1) := by decide +kernel
theorem d_L_law_8 : decode (tm_c 0) 8 = .ok (.new 10, 3) := by decide +kernel
theorem d_L_law_11 : decode (tm_c 0) 11 = .ok (.dup, 1) := by decide +kernel
theorem d_L_law_12 : decode (tm_c 0) 12 = .ok (.invokespecial 12, 3) := by decide +kernel
theorem d_L_law_15 : decode (tm_c 0) 15 = .ok (.astore_n 2, 1) := by decide +kernel
theorem d_L_law_16 : decode (tm_c 0) 16 = .ok (.iconst (0), 1) := by decide +kernel
theorem d_L_law_17 : decode (tm_c 0) 17 = .ok (.istore_n 3, 1) := by decide +kernel
theorem d_L_law_18 : decode (tm_c 0) 18 = .ok (.iload_n 3, 1) := by decide +kernel
theorem d_L_law_19 : decode (tm_c 0) 19 = .ok (.aload_n 0, 1) := by decide +kernel
theorem d_L_law_20 : decode (tm_c 0) 20 = .ok (.arraylength, 1) := by decide +kernel
theorem d_L_law_21 : decode (tm_c 0) 21 = .ok (.bipush (6), 2) := by decide +kernel
theorem d_L_law_23 : decode (tm_c 0) 23 = .ok (.isub, 1) := by decide +kernel
theorem d_L_law_24 : decode (tm_c 0) 24 = .ok (.if_icmp .gt (796), 3) := by decide +kernel
theorem d_L_law_27 : decode (tm_c 0) 27 = .ok (.aload_n 0, 1) := by decide +kernel
theorem d_L_law_28 : decode (tm_c 0) 28 = .ok (.iload_n 3, 1) := by decide +kernel
theorem d_L_law_29 : decode (tm_c 0) 29 = .ok (.iaload, 1) := by decide +kernel
theorem d_L_law_30 : decode (tm_c 0) 30 = .ok (.bipush (31), 2) := by decide +kernel
theorem d_L_law_32 : decode (tm_c 0) 32 = .ok (.iand, 1) := by decide +kernel
theorem d_L_law_33 : decode (tm_c 0) 33 = .ok (.tableswitch (781) (0) (17) #[87, 130, 163, 226, 269, 312, 345, 378, 411, 444, 477, 510, 553, 596, 639, 682, 715, 748], 87) := by decide +kernel
theorem d_L_law_120 : decode (tm_c 0) 120 = .ok (.aload_n 1, 1) := by decide +kernel
theorem d_L_law_121 : decode (tm_c 0) 121 = .ok (.aload_n 0, 1) := by decide +kernel
theorem d_L_law_122 : decode (tm_c 0) 122 = .ok (.iload_n 3, 1) := by decide +kernel
theorem d_L_law_123 : decode (tm_c 0) 123 = .ok (.iconst (1), 1) := by decide +kernel
theorem d_L_law_124 : decode (tm_c 0) 124 = .ok (.iadd, 1) := by decide +kernel
theorem d_L_law_125 : decode (tm_c 0) 125 = .ok (.iaload, 1) := by decide +kernel
theorem d_L_law_126 : decode (tm_c 0) 126 = .ok (.aload_n 0, 1) := by decide +kernel
theorem d_L_law_127 : decode (tm_c 0) 127 = .ok (.iload_n 3, 1) := by decide +kernel
theorem d_L_law_128 : decode (tm_c 0) 128 = .ok (.iconst (2), 1) := by decide +kernel
theorem d_L_law_129 : decode (tm_c 0) 129 = .ok (.iadd, 1) := by decide +kernel
theorem d_L_law_130 : decode (tm_c 0) 130 = .ok (.iaload, 1) := by decide +kernel
theorem d_L_law_131 : decode (tm_c 0) 131 = .ok (.aload_n 0, 1) := by decide +kernel
theorem d_L_law_132 : decode (tm_c 0) 132 = .ok (.iload_n 3, 1) := by decide +kernel
theorem d_L_law_133 : decode (tm_c 0) 133 = .ok (.iconst (3), 1) := by decide +kernel
theorem d_L_law_134 : decode (tm_c 0) 134 = .ok (.iadd, 1) := by decide +kernel
theorem d_L_law_135 : decode (tm_c 0) 135 = .ok (.iaload, 1) := by decide +kernel
theorem d_L_law_136 : decode (tm_c 0) 136 = .ok (.invokevirtual 13, 3) := by decide +kernel
theorem d_L_law_139 : decode (tm_c 0) 139 = .ok (.aload_n 2, 1) := by decide +kernel
theorem d_L_law_140 : decode (tm_c 0) 140 = .ok (.aload_n 0, 1) := by decide +kernel
theorem d_L_law_141 : decode (tm_c 0) 141 = .ok (.iload_n 3, 1) := by decide +kernel
theorem d_L_law_142 : decode (tm_c 0) 142 = .ok (.iconst (1), 1) := by decide +kernel
theorem d_L_law_143 : decode (tm_c 0) 143 = .ok (.iadd, 1) := by decide +kernel
theorem d_L_law_144 : decode (tm_c 0) 144 = .ok (.iaload, 1) := by decide +kernel
theorem d_L_law_145 : decode (tm_c 0) 145 = .ok (.aload_n 0, 1) := by decide +kernel
theorem d_L_law_146 : decode (tm_c 0) 146 = .ok (.iload_n 3, 1) := by decide +kernel
theorem d_L_law_147 : decode (tm_c 0) 147 = .ok (.iconst (2), 1) := by decide +kernel
theorem d_L_law_148 : decode (tm_c 0) 148 = .ok (.iadd, 1) := by decide +kernel
theorem d_L_law_149 : decode (tm_c 0) 149 = .ok (.iaload, 1) := by decide +kernel
theorem d_L_law_150 : decode (tm_c 0) 150 = .ok (.aload_n 0, 1) := by decide +kernel
theorem d_L_law_151 : decode (tm_c 0) 151 = .ok (.iload_n 3, 1) := by decide +kernel
theorem d_L_law_152 : decode (tm_c 0) 152 = .ok (.iconst (3), 1) := by decide +kernel
theorem d_L_law_153 : decode (tm_c 0) 153 = .ok (.iadd, 1) := by decide +kernel
theorem d_L_law_154 : decode (tm_c 0) 154 = .ok (.iaload, 1) := by decide +kernel
theorem d_L_law_155 : decode (tm_c 0) 155 = .ok (.invokevirtual 17, 3) := by decide +kernel
theorem d_L_law_158 : decode (tm_c 0) 158 = .ok (.if_icmp .eq (656), 3) := by decide +kernel
theorem d_L_law_161 : decode (tm_c 0) 161 = .ok (.iconst (0), 1) := by decide +kernel
theorem d_L_law_162 : decode (tm_c 0) 162 = .ok (.ireturn, 1) := by decide +kernel
theorem d_L_law_163 : decode (tm_c 0) 163 = .ok (.aload_n 1, 1) := by decide +kernel
theorem d_L_law_164 : decode (tm_c 0) 164 = .ok (.aload_n 0, 1) := by decide +kernel
theorem d_L_law_165 : decode (tm_c 0) 165 = .ok (.iload_n 3, 1) := by decide +kernel
theorem d_L_law_166 : decode (tm_c 0) 166 = .ok (.iconst (1), 1) := by decide +kernel
theorem d_L_law_167 : decode (tm_c 0) 167 = .ok (.iadd, 1) := by decide +kernel
theorem d_L_law_168 : decode (tm_c 0) 168 = .ok (.iaload, 1) := by decide +kernel
theorem d_L_law_169 : decode (tm_c 0) 169 = .ok (.aload_n 0, 1) := by decide +kernel
theorem d_L_law_170 : decode (tm_c 0) 170 = .ok (.iload_n 3, 1) := by decide +kernel
theorem d_L_law_171 : decode (tm_c 0) 171 = .ok (.iconst (2), 1) := by decide +kernel
theorem d_L_law_172 : decode (tm_c 0) 172 = .ok (.iadd, 1) := by decide +kernel
theorem d_L_law_173 : decode (tm_c 0) 173 = .ok (.iaload, 1) := by decide +kernel
theorem d_L_law_174 : decode (tm_c 0) 174 = .ok (.invokevirtual 18, 3) := by decide +kernel
theorem d_L_law_177 : decode (tm_c 0) 177 = .ok (.aload_n 2, 1) := by decide +kernel
theorem d_L_law_178 : decode (tm_c 0) 178 = .ok (.aload_n 0, 1) := by decide +kernel
theorem d_L_law_179 : decode (tm_c 0) 179 = .ok (.iload_n 3, 1) := by decide +kernel
theorem d_L_law_180 : decode (tm_c 0) 180 = .ok (.iconst (1), 1) := by decide +kernel
theorem d_L_law_181 : decode (tm_c 0) 181 = .ok (.iadd, 1) := by decide +kernel
theorem d_L_law_182 : decode (tm_c 0) 182 = .ok (.iaload, 1) := by decide +kernel
theorem d_L_law_183 : decode (tm_c 0) 183 = .ok (.aload_n 0, 1) := by decide +kernel
theorem d_L_law_184 : decode (tm_c 0) 184 = .ok (.iload_n 3, 1) := by decide +kernel
theorem d_L_law_185 : decode (tm_c 0) 185 = .ok (.iconst (2), 1) := by decide +kernel
theorem d_L_law_186 : decode (tm_c 0) 186 = .ok (.iadd, 1) := by decide +kernel
theorem d_L_law_187 : decode (tm_c 0) 187 = .ok (.iaload, 1) := by decide +kernel
theorem d_L_law_188 : decode (tm_c 0) 188 = .ok (.invokevirtual 22, 3) := by decide +kernel
theorem d_L_law_191 : decode (tm_c 0) 191 = .ok (.if_icmp .eq (623), 3) := by decide +kernel
theorem d_L_law_194 : decode (tm_c 0) 194 = .ok (.iconst (0), 1) := by decide +kernel
theorem d_L_law_195 : decode (tm_c 0) 195 = .ok (.ireturn, 1) := by decide +kernel
theorem d_L_law_196 : decode (tm_c 0) 196 = .ok (.aload_n 1, 1) := by decide +kernel
theorem d_L_law_197 : decode (tm_c 0) 197 = .ok (.aload_n 0, 1) := by decide +kernel
theorem d_L_law_198 : decode (tm_c 0) 198 = .ok (.iload_n 3, 1) := by decide +kernel
theorem d_L_law_199 : decode (tm_c 0) 199 = .ok (.iconst (1), 1) := by decide +kernel
theorem d_L_law_200 : decode (tm_c 0) 200 = .ok (.iadd, 1) := by decide +kernel
theorem d_L_law_201 : decode (tm_c 0) 201 = .ok (.iaload, 1) := by decide +kernel
theorem d_L_law_202 : decode (tm_c 0) 202 = .ok (.aload_n 0, 1) := by decide +kernel
theorem d_L_law_203 : decode (tm_c 0) 203 = .ok (.iload_n 3, 1) := by decide +kernel
theorem d_L_law_204 : decode (tm_c 0) 204 = .ok (.iconst (2), 1) := by decide +kernel
theorem d_L_law_205 : decode (tm_c 0) 205 = .ok (.iadd, 1) := by decide +kernel
theorem d_L_law_206 : decode (tm_c 0) 206 = .ok (.iaload, 1) := by decide +kernel
theorem d_L_law_207 : decode (tm_c 0) 207 = .ok (.aload_n 0, 1) := by decide +kernel
theorem d_L_law_208 : decode (tm_c 0) 208 = .ok (.iload_n 3, 1) := by decide +kernel
theorem d_L_law_209 : decode (tm_c 0) 209 = .ok (.iconst (3), 1) := by decide +kernel
theorem d_L_law_210 : decode (tm_c 0) 210 = .ok (.iadd, 1) := by decide +kernel
theorem d_L_law_211 : decode (tm_c 0) 211 = .ok (.iaload, 1) := by decide +kernel
theorem d_L_law_212 : decode (tm_c 0) 212 = .ok (.aload_n 0, 1) := by decide +kernel
theorem d_L_law_213 : decode (tm_c 0) 213 = .ok (.iload_n 3, 1) := by decide +kernel
theorem d_L_law_214 : decode (tm_c 0) 214 = .ok (.iconst (4), 1) := by decide +kernel
theorem d_L_law_215 : decode (tm_c 0) 215 = .ok (.iadd, 1) := by decide +kernel
theorem d_L_law_216 : decode (tm_c 0) 216 = .ok (.iaload, 1) := by decide +kernel
theorem d_L_law_217 : decode (tm_c 0) 217 = .ok (.aload_n 0, 1) := by decide +kernel
theorem d_L_law_218 : decode (tm_c 0) 218 = .ok (.iload_n 3, 1) := by decide +kernel
theorem d_L_law_219 : decode (tm_c 0) 219 = .ok (.iconst (5), 1) := by decide +kernel
theorem d_L_law_220 : decode (tm_c 0) 220 = .ok (.iadd, 1) := by decide +kernel
theorem d_L_law_221 : decode (tm_c 0) 221 = .ok (.iaload, 1) := by decide +kernel
theorem d_L_law_222 : decode (tm_c 0) 222 = .ok (.invokevirtual 23, 3) := by decide +kernel
theorem d_L_law_225 : decode (tm_c 0) 225 = .ok (.aload_n 2, 1) := by decide +kernel
theorem d_L_law_226 : decode (tm_c 0) 226 = .ok (.aload_n 0, 1) := by decide +kernel
theorem d_L_law_227 : decode (tm_c 0) 227 = .ok (.iload_n 3, 1) := by decide +kernel
theorem d_L_law_228 : decode (tm_c 0) 228 = .ok (.iconst (1), 1) := by decide +kernel
theorem d_L_law_229 : decode (tm_c 0) 229 = .ok (.iadd, 1) := by decide +kernel
theorem d_L_law_230 : decode (tm_c 0) 230 = .ok (.iaload, 1) := by decide +kernel
theorem d_L_law_231 : decode (tm_c 0) 231 = .ok (.aload_n 0, 1) := by decide +kernel
theorem d_L_law_232 : decode (tm_c 0) 232 = .ok (.iload_n 3, 1) := by decide +kernel
theorem d_L_law_233 : decode (tm_c 0) 233 = .ok (.iconst (2), 1) := by decide +kernel
theorem d_L_law_234 : decode (tm_c 0) 234 = .ok (.iadd, 1) := by decide +kernel
theorem d_L_law_235 : decode (tm_c 0) 235 = .ok (.iaload, 1) := by decide +kernel
theorem d_L_law_236 : decode (tm_c 0) 236 = .ok (.aload_n 0, 1) := by decide +kernel
theorem d_L_law_237 : decode (tm_c 0) 237 = .ok (.iload_n 3, 1) := by decide +kernel
theorem d_L_law_238 : decode (tm_c 0) 238 = .ok (.iconst (3), 1) := by decide +kernel
theorem d_L_law_239 : decode (tm_c 0) 239 = .ok (.iadd, 1) := by decide +kernel
theorem d_L_law_240 : decode (tm_c 0) 240 = .ok (.iaload, 1) := by decide +kernel
theorem d_L_law_241 : decode (tm_c 0) 241 = .ok (.aload_n 0, 1) := by decide +kernel
theorem d_L_law_242 : decode (tm_c 0) 242 = .ok (.iload_n 3, 1) := by decide +kernel
theorem d_L_law_243 : decode (tm_c 0) 243 = .ok (.iconst (4), 1) := by decide +kernel
theorem d_L_law_244 : decode (tm_c 0) 244 = .ok (.iadd, 1) := by decide +kernel
theorem d_L_law_245 : decode (tm_c 0) 245 = .ok (.iaload, 1) := by decide +kernel
theorem d_L_law_246 : decode (tm_c 0) 246 = .ok (.aload_n 0, 1) := by decide +kernel
theorem d_L_law_247 : decode (tm_c 0) 247 = .ok (.iload_n 3, 1) := by decide +kernel
theorem d_L_law_248 : decode (tm_c 0) 248 = .ok (.iconst (5), 1) := by decide +kernel
theorem d_L_law_249 : decode (tm_c 0) 249 = .ok (.iadd, 1) := by decide +kernel
theorem d_L_law_250 : decode (tm_c 0) 250 = .ok (.iaload, 1) := by decide +kernel
theorem d_L_law_251 : decode (tm_c 0) 251 = .ok (.invokevirtual 27, 3) := by decide +kernel
theorem d_L_law_254 : decode (tm_c 0) 254 = .ok (.if_icmp .eq (560), 3) := by decide +kernel
theorem d_L_law_257 : decode (tm_c 0) 257 = .ok (.iconst (0), 1) := by decide +kernel
theorem d_L_law_258 : decode (tm_c 0) 258 = .ok (.ireturn, 1) := by decide +kernel
theorem d_L_law_259 : decode (tm_c 0) 259 = .ok (.aload_n 1, 1) := by decide +kernel
theorem d_L_law_260 : decode (tm_c 0) 260 = .ok (.aload_n 0, 1) := by decide +kernel
theorem d_L_law_261 : decode (tm_c 0) 261 = .ok (.iload_n 3, 1) := by decide +kernel
theorem d_L_law_262 : decode (tm_c 0) 262 = .ok (.iconst (1), 1) := by decide +kernel
theorem d_L_law_263 : decode (tm_c 0) 263 = .ok (.iadd, 1) := by decide +kernel
theorem d_L_law_264 : decode (tm_c 0) 264 = .ok (.iaload, 1) := by decide +kernel
theorem d_L_law_265 : decode (tm_c 0) 265 = .ok (.aload_n 0, 1) := by decide +kernel
theorem d_L_law_266 : decode (tm_c 0) 266 = .ok (.iload_n 3, 1) := by decide +kernel
theorem d_L_law_267 : decode (tm_c 0) 267 = .ok (.iconst (2), 1) := by decide +kernel
theorem d_L_law_268 : decode (tm_c 0) 268 = .ok (.iadd, 1) := by decide +kernel
theorem d_L_law_269 : decode (tm_c 0) 269 = .ok (.iaload, 1) := by decide +kernel
theorem d_L_law_270 : decode (tm_c 0) 270 = .ok (.aload_n 0, 1) := by decide +kernel
theorem d_L_law_271 : decode (tm_c 0) 271 = .ok (.iload_n 3, 1) := by decide +kernel
theorem d_L_law_272 : decode (tm_c 0) 272 = .ok (.iconst (3), 1) := by decide +kernel
theorem d_L_law_273 : decode (tm_c 0) 273 = .ok (.iadd, 1) := by decide +kernel
theorem d_L_law_274 : decode (tm_c 0) 274 = .ok (.iaload, 1) := by decide +kernel
theorem d_L_law_275 : decode (tm_c 0) 275 = .ok (.invokevirtual 28, 3) := by decide +kernel
theorem d_L_law_278 : decode (tm_c 0) 278 = .ok (.aload_n 2, 1) := by decide +kernel
theorem d_L_law_279 : decode (tm_c 0) 279 = .ok (.aload_n 0, 1) := by decide +kernel
theorem d_L_law_280 : decode (tm_c 0) 280 = .ok (.iload_n 3, 1) := by decide +kernel
theorem d_L_law_281 : decode (tm_c 0) 281 = .ok (.iconst (1), 1) := by decide +kernel
theorem d_L_law_282 : decode (tm_c 0) 282 = .ok (.iadd, 1) := by decide +kernel
theorem d_L_law_283 : decode (tm_c 0) 283 = .ok (.iaload, 1) := by decide +kernel
theorem d_L_law_284 : decode (tm_c 0) 284 = .ok (.aload_n 0, 1) := by decide +kernel
theorem d_L_law_285 : decode (tm_c 0) 285 = .ok (.iload_n 3, 1) := by decide +kernel
theorem d_L_law_286 : decode (tm_c 0) 286 = .ok (.iconst (2), 1) := by decide +kernel
theorem d_L_law_287 : decode (tm_c 0) 287 = .ok (.iadd, 1) := by decide +kernel
theorem d_L_law_288 : decode (tm_c 0) 288 = .ok (.iaload, 1) := by decide +kernel
theorem d_L_law_289 : decode (tm_c 0) 289 = .ok (.aload_n 0, 1) := by decide +kernel
theorem d_L_law_290 : decode (tm_c 0) 290 = .ok (.iload_n 3, 1) := by decide +kernel
theorem d_L_law_291 : decode (tm_c 0) 291 = .ok (.iconst (3), 1) := by decide +kernel
theorem d_L_law_292 : decode (tm_c 0) 292 = .ok (.iadd, 1) := by decide +kernel
theorem d_L_law_293 : decode (tm_c 0) 293 = .ok (.iaload, 1) := by decide +kernel
theorem d_L_law_294 : decode (tm_c 0) 294 = .ok (.invokevirtual 31, 3) := by decide +kernel
theorem d_L_law_297 : decode (tm_c 0) 297 = .ok (.if_icmp .eq (517), 3) := by decide +kernel
theorem d_L_law_300 : decode (tm_c 0) 300 = .ok (.iconst (0), 1) := by decide +kernel
theorem d_L_law_301 : decode (tm_c 0) 301 = .ok (.ireturn, 1) := by decide +kernel
theorem d_L_law_302 : decode (tm_c 0) 302 = .ok (.aload_n 1, 1) := by decide +kernel
theorem d_L_law_303 : decode (tm_c 0) 303 = .ok (.aload_n 0, 1) := by decide +kernel
theorem d_L_law_304 : decode (tm_c 0) 304 = .ok (.iload_n 3, 1) := by decide +kernel
theorem d_L_law_305 : decode (tm_c 0) 305 = .ok (.iconst (1), 1) := by decide +kernel
theorem d_L_law_306 : decode (tm_c 0) 306 = .ok (.iadd, 1) := by decide +kernel
theorem d_L_law_307 : decode (tm_c 0) 307 = .ok (.iaload, 1) := by decide +kernel
theorem d_L_law_308 : decode (tm_c 0) 308 = .ok (.aload_n 0, 1) := by decide +kernel
theorem d_L_law_309 : decode (tm_c 0) 309 = .ok (.iload_n 3, 1) := by decide +kernel
theorem d_L_law_310 : decode (tm_c 0) 310 = .ok (.iconst (2), 1) := by decide +kernel
theorem d_L_law_311 : decode (tm_c 0) 311 = .ok (.iadd, 1) := by decide +kernel
theorem d_L_law_312 : decode (tm_c 0) 312 = .ok (.iaload, 1) := by decide +kernel
theorem d_L_law_313 : decode (tm_c 0) 313 = .ok (.aload_n 0, 1) := by decide +kernel
theorem d_L_law_314 : decode (tm_c 0) 314 = .ok (.iload_n 3, 1) := by decide +kernel
theorem d_L_law_315 : decode (tm_c 0) 315 = .ok (.iconst (3), 1) := by decide +kernel
theorem d_L_law_316 : decode (tm_c 0) 316 = .ok (.iadd, 1) := by decide +kernel
theorem d_L_law_317 : decode (tm_c 0) 317 = .ok (.iaload, 1) := by decide +kernel
theorem d_L_law_318 : decode (tm_c 0) 318 = .ok (.invokevirtual 32, 3) := by decide +kernel
theorem d_L_law_321 : decode (tm_c 0) 321 = .ok (.aload_n 2, 1) := by decide +kernel
theorem d_L_law_322 : decode (tm_c 0) 322 = .ok (.aload_n 0, 1) := by decide +kernel
theorem d_L_law_323 : decode (tm_c 0) 323 = .ok (.iload_n 3, 1) := by decide +kernel
theorem d_L_law_324 : decode (tm_c 0) 324 = .ok (.iconst (1), 1) := by decide +kernel
theorem d_L_law_325 : decode (tm_c 0) 325 = .ok (.iadd, 1) := by decide +kernel
theorem d_L_law_326 : decode (tm_c 0) 326 = .ok (.iaload, 1) := by decide +kernel
theorem d_L_law_327 : decode (tm_c 0) 327 = .ok (.aload_n 0, 1) := by decide +kernel
theorem d_L_law_328 : decode (tm_c 0) 328 = .ok (.iload_n 3, 1) := by decide +kernel
theorem d_L_law_329 : decode (tm_c 0) 329 = .ok (.iconst (2), 1) := by decide +kernel
theorem d_L_law_330 : decode (tm_c 0) 330 = .ok (.iadd, 1) := by decide +kernel
theorem d_L_law_331 : decode (tm_c 0) 331 = .ok (.iaload, 1) := by decide +kernel
theorem d_L_law_332 : decode (tm_c 0) 332 = .ok (.aload_n 0, 1) := by decide +kernel
theorem d_L_law_333 : decode (tm_c 0) 333 = .ok (.iload_n 3, 1) := by decide +kernel
theorem d_L_law_334 : decode (tm_c 0) 334 = .ok (.iconst (3), 1) := by decide +kernel
theorem d_L_law_335 : decode (tm_c 0) 335 = .ok (.iadd, 1) := by decide +kernel
theorem d_L_law_336 : decode (tm_c 0) 336 = .ok (.iaload, 1) := by decide +kernel
theorem d_L_law_337 : decode (tm_c 0) 337 = .ok (.invokevirtual 35, 3) := by decide +kernel
theorem d_L_law_340 : decode (tm_c 0) 340 = .ok (.if_icmp .eq (474), 3) := by decide +kernel
theorem d_L_law_343 : decode (tm_c 0) 343 = .ok (.iconst (0), 1) := by decide +kernel
theorem d_L_law_344 : decode (tm_c 0) 344 = .ok (.ireturn, 1) := by decide +kernel
theorem d_L_law_345 : decode (tm_c 0) 345 = .ok (.aload_n 1, 1) := by decide +kernel
theorem d_L_law_346 : decode (tm_c 0) 346 = .ok (.aload_n 0, 1) := by decide +kernel
theorem d_L_law_347 : decode (tm_c 0) 347 = .ok (.iload_n 3, 1) := by decide +kernel
theorem d_L_law_348 : decode (tm_c 0) 348 = .ok (.iconst (1), 1) := by decide +kernel
theorem d_L_law_349 : decode (tm_c 0) 349 = .ok (.iadd, 1) := by decide +kernel
theorem d_L_law_350 : decode (tm_c 0) 350 = .ok (.iaload, 1) := by decide +kernel
theorem d_L_law_351 : decode (tm_c 0) 351 = .ok (.aload_n 0, 1) := by decide +kernel
theorem d_L_law_352 : decode (tm_c 0) 352 = .ok (.iload_n 3, 1) := by decide +kernel
theorem d_L_law_353 : decode (tm_c 0) 353 = .ok (.iconst (2), 1) := by decide +kernel
theorem d_L_law_354 : decode (tm_c 0) 354 = .ok (.iadd, 1) := by decide +kernel
theorem d_L_law_355 : decode (tm_c 0) 355 = .ok (.iaload, 1) := by decide +kernel
theorem d_L_law_356 : decode (tm_c 0) 356 = .ok (.invokevirtual 36, 3) := by decide +kernel
theorem d_L_law_359 : decode (tm_c 0) 359 = .ok (.aload_n 2, 1) := by decide +kernel
theorem d_L_law_360 : decode (tm_c 0) 360 = .ok (.aload_n 0, 1) := by decide +kernel
theorem d_L_law_361 : decode (tm_c 0) 361 = .ok (.iload_n 3, 1) := by decide +kernel
theorem d_L_law_362 : decode (tm_c 0) 362 = .ok (.iconst (1), 1) := by decide +kernel
theorem d_L_law_363 : decode (tm_c 0) 363 = .ok (.iadd, 1) := by decide +kernel
theorem d_L_law_364 : decode (tm_c 0) 364 = .ok (.iaload, 1) := by decide +kernel
theorem d_L_law_365 : decode (tm_c 0) 365 = .ok (.aload_n 0, 1) := by decide +kernel
theorem d_L_law_366 : decode (tm_c 0) 366 = .ok (.iload_n 3, 1) := by decide +kernel
theorem d_L_law_367 : decode (tm_c 0) 367 = .ok (.iconst (2), 1) := by decide +kernel
theorem d_L_law_368 : decode (tm_c 0) 368 = .ok (.iadd, 1) := by decide +kernel
theorem d_L_law_369 : decode (tm_c 0) 369 = .ok (.iaload, 1) := by decide +kernel
theorem d_L_law_370 : decode (tm_c 0) 370 = .ok (.invokevirtual 39, 3) := by decide +kernel
theorem d_L_law_373 : decode (tm_c 0) 373 = .ok (.if_icmp .eq (441), 3) := by decide +kernel
theorem d_L_law_376 : decode (tm_c 0) 376 = .ok (.iconst (0), 1) := by decide +kernel
theorem d_L_law_377 : decode (tm_c 0) 377 = .ok (.ireturn, 1) := by decide +kernel
theorem d_L_law_378 : decode (tm_c 0) 378 = .ok (.aload_n 1, 1) := by decide +kernel
theorem d_L_law_379 : decode (tm_c 0) 379 = .ok (.aload_n 0, 1) := by decide +kernel
theorem d_L_law_380 : decode (tm_c 0) 380 = .ok (.iload_n 3, 1) := by decide +kernel
theorem d_L_law_381 : decode (tm_c 0) 381 = .ok (.iconst (1), 1) := by decide +kernel
theorem d_L_law_382 : decode (tm_c 0) 382 = .ok (.iadd, 1) := by decide +kernel
theorem d_L_law_383 : decode (tm_c 0) 383 = .ok (.iaload, 1) := by decide +kernel
theorem d_L_law_384 : decode (tm_c 0) 384 = .ok (.aload_n 0, 1) := by decide +kernel
theorem d_L_law_385 : decode (tm_c 0) 385 = .ok (.iload_n 3, 1) := by decide +kernel
theorem d_L_law_386 : decode (tm_c 0) 386 = .ok (.iconst (2), 1) := by decide +kernel
theorem d_L_law_387 : decode (tm_c 0) 387 = .ok (.iadd, 1) := by decide +kernel
theorem d_L_law_388 : decode (tm_c 0) 388 = .ok (.iaload, 1) := by decide +kernel
theorem d_L_law_389 : decode (tm_c 0) 389 = .ok (.invokevirtual 40, 3) := by decide +kernel
theorem d_L_law_392 : decode (tm_c 0) 392 = .ok (.aload_n 2, 1) := by decide +kernel
theorem d_L_law_393 : decode (tm_c 0) 393 = .ok (.aload_n 0, 1) := by decide +kernel
theorem d_L_law_394 : decode (tm_c 0) 394 = .ok (.iload_n 3, 1) := by decide +kernel
theorem d_L_law_395 : decode (tm_c 0) 395 = .ok (.iconst (1), 1) := by decide +kernel
theorem d_L_law_396 : decode (tm_c 0) 396 = .ok (.iadd, 1) := by decide +kernel
theorem d_L_law_397 : decode (tm_c 0) 397 = .ok (.iaload, 1) := by decide +kernel
theorem d_L_law_398 : decode (tm_c 0) 398 = .ok (.aload_n 0, 1) := by decide +kernel
theorem d_L_law_399 : decode (tm_c 0) 399 = .ok (.iload_n 3, 1) := by decide +kernel
theorem d_L_law_400 : decode (tm_c 0) 400 = .ok (.iconst (2), 1) := by decide +kernel
theorem d_L_law_401 : decode (tm_c 0) 401 = .ok (.iadd, 1) := by decide +kernel
theorem d_L_law_402 : decode (tm_c 0) 402 = .ok (.iaload, 1) := by decide +kernel
theorem d_L_law_403 : decode (tm_c 0) 403 = .ok (.invokevirtual 44, 3) := by decide +kernel
theorem d_L_law_406 : decode (tm_c 0) 406 = .ok (.if_icmp .eq (408), 3) := by decide +kernel
theorem d_L_law_409 : decode (tm_c 0) 409 = .ok (.iconst (0), 1) := by decide +kernel
theorem d_L_law_410 : decode (tm_c 0) 410 = .ok (.ireturn, 1) := by decide +kernel
theorem d_L_law_411 : decode (tm_c 0) 411 = .ok (.aload_n 1, 1) := by decide +kernel
theorem d_L_law_412 : decode (tm_c 0) 412 = .ok (.aload_n 0, 1) := by decide +kernel
theorem d_L_law_413 : decode (tm_c 0) 413 = .ok (.iload_n 3, 1) := by decide +kernel
theorem d_L_law_414 : decode (tm_c 0) 414 = .ok (.iconst (1), 1) := by decide +kernel
theorem d_L_law_415 : decode (tm_c 0) 415 = .ok (.iadd, 1) := by decide +kernel
theorem d_L_law_416 : decode (tm_c 0) 416 = .ok (.iaload, 1) := by decide +kernel
theorem d_L_law_417 : decode (tm_c 0) 417 = .ok (.aload_n 0, 1) := by decide +kernel
theorem d_L_law_418 : decode (tm_c 0) 418 = .ok (.iload_n 3, 1) := by decide +kernel
theorem d_L_law_419 : decode (tm_c 0) 419 = .ok (.iconst (2), 1) := by decide +kernel
theorem d_L_law_420 : decode (tm_c 0) 420 = .ok (.iadd, 1) := by decide +kernel
theorem d_L_law_421 : decode (tm_c 0) 421 = .ok (.iaload, 1) := by decide +kernel
theorem d_L_law_422 : decode (tm_c 0) 422 = .ok (.invokevirtual 45, 3) := by decide +kernel
theorem d_L_law_425 : decode (tm_c 0) 425 = .ok (.aload_n 2, 1) := by decide +kernel
theorem d_L_law_426 : decode (tm_c 0) 426 = .ok (.aload_n 0, 1) := by decide +kernel
theorem d_L_law_427 : decode (tm_c 0) 427 = .ok (.iload_n 3, 1) := by decide +kernel
theorem d_L_law_428 : decode (tm_c 0) 428 = .ok (.iconst (1), 1) := by decide +kernel
theorem d_L_law_429 : decode (tm_c 0) 429 = .ok (.iadd, 1) := by decide +kernel
theorem d_L_law_430 : decode (tm_c 0) 430 = .ok (.iaload, 1) := by decide +kernel
theorem d_L_law_431 : decode (tm_c 0) 431 = .ok (.aload_n 0, 1) := by decide +kernel
theorem d_L_law_432 : decode (tm_c 0) 432 = .ok (.iload_n 3, 1) := by decide +kernel
theorem d_L_law_433 : decode (tm_c 0) 433 = .ok (.iconst (2), 1) := by decide +kernel
theorem d_L_law_434 : decode (tm_c 0) 434 = .ok (.iadd, 1) := by decide +kernel
theorem d_L_law_435 : decode (tm_c 0) 435 = .ok (.iaload, 1) := by decide +kernel
theorem d_L_law_436 : decode (tm_c 0) 436 = .ok (.invokevirtual 48, 3) := by decide +kernel
theorem d_L_law_439 : decode (tm_c 0) 439 = .ok (.if_icmp .eq (375), 3) := by decide +kernel
theorem d_L_law_442 : decode (tm_c 0) 442 = .ok (.iconst (0), 1) := by decide +kernel
theorem d_L_law_443 : decode (tm_c 0) 443 = .ok (.ireturn, 1) := by decide +kernel
theorem d_L_law_444 : decode (tm_c 0) 444 = .ok (.aload_n 1, 1) := by decide +kernel
theorem d_L_law_445 : decode (tm_c 0) 445 = .ok (.aload_n 0, 1) := by decide +kernel
theorem d_L_law_446 : decode (tm_c 0) 446 = .ok (.iload_n 3, 1) := by decide +kernel
theorem d_L_law_447 : decode (tm_c 0) 447 = .ok (.iconst (1), 1) := by decide +kernel
theorem d_L_law_448 : decode (tm_c 0) 448 = .ok (.iadd, 1) := by decide +kernel
theorem d_L_law_449 : decode (tm_c 0) 449 = .ok (.iaload, 1) := by decide +kernel
theorem d_L_law_450 : decode (tm_c 0) 450 = .ok (.aload_n 0, 1) := by decide +kernel
theorem d_L_law_451 : decode (tm_c 0) 451 = .ok (.iload_n 3, 1) := by decide +kernel
theorem d_L_law_452 : decode (tm_c 0) 452 = .ok (.iconst (2), 1) := by decide +kernel
theorem d_L_law_453 : decode (tm_c 0) 453 = .ok (.iadd, 1) := by decide +kernel
theorem d_L_law_454 : decode (tm_c 0) 454 = .ok (.iaload, 1) := by decide +kernel
theorem d_L_law_455 : decode (tm_c 0) 455 = .ok (.invokevirtual 49, 3) := by decide +kernel
theorem d_L_law_458 : decode (tm_c 0) 458 = .ok (.aload_n 2, 1) := by decide +kernel
theorem d_L_law_459 : decode (tm_c 0) 459 = .ok (.aload_n 0, 1) := by decide +kernel
theorem d_L_law_460 : decode (tm_c 0) 460 = .ok (.iload_n 3, 1) := by decide +kernel
theorem d_L_law_461 : decode (tm_c 0) 461 = .ok (.iconst (1), 1) := by decide +kernel
theorem d_L_law_462 : decode (tm_c 0) 462 = .ok (.iadd, 1) := by decide +kernel
theorem d_L_law_463 : decode (tm_c 0) 463 = .ok (.iaload, 1) := by decide +kernel
theorem d_L_law_464 : decode (tm_c 0) 464 = .ok (.aload_n 0, 1) := by decide +kernel
theorem d_L_law_465 : decode (tm_c 0) 465 = .ok (.iload_n 3, 1) := by decide +kernel
theorem d_L_law_466 : decode (tm_c 0) 466 = .ok (.iconst (2), 1) := by decide +kernel
theorem d_L_law_467 : decode (tm_c 0) 467 = .ok (.iadd, 1) := by decide +kernel
theorem d_L_law_468 : decode (tm_c 0) 468 = .ok (.iaload, 1) := by decide +kernel
theorem d_L_law_469 : decode (tm_c 0) 469 = .ok (.invokevirtual 52, 3) := by decide +kernel
theorem d_L_law_472 : decode (tm_c 0) 472 = .ok (.if_icmp .eq (342), 3) := by decide +kernel
theorem d_L_law_475 : decode (tm_c 0) 475 = .ok (.iconst (0), 1) := by decide +kernel
theorem d_L_law_476 : decode (tm_c 0) 476 = .ok (.ireturn, 1) := by decide +kernel
theorem d_L_law_477 : decode (tm_c 0) 477 = .ok (.aload_n 1, 1) := by decide +kernel
theorem d_L_law_478 : decode (tm_c 0) 478 = .ok (.aload_n 0, 1) := by decide +kernel
theorem d_L_law_479 : decode (tm_c 0) 479 = .ok (.iload_n 3, 1) := by decide +kernel
theorem d_L_law_480 : decode (tm_c 0) 480 = .ok (.iconst (1), 1) := by decide +kernel
theorem d_L_law_481 : decode (tm_c 0) 481 = .ok (.iadd, 1) := by decide +kernel
theorem d_L_law_482 : decode (tm_c 0) 482 = .ok (.iaload, 1) := by decide +kernel
theorem d_L_law_483 : decode (tm_c 0) 483 = .ok (.aload_n 0, 1) := by decide +kernel
theorem d_L_law_484 : decode (tm_c 0) 484 = .ok (.iload_n 3, 1) := by decide +kernel
theorem d_L_law_485 : decode (tm_c 0) 485 = .ok (.iconst (2), 1) := by decide +kernel
theorem d_L_law_486 : decode (tm_c 0) 486 = .ok (.iadd, 1) := by decide +kernel
theorem d_L_law_487 : decode (tm_c 0) 487 = .ok (.iaload, 1) := by decide +kernel
theorem d_L_law_488 : decode (tm_c 0) 488 = .ok (.invokevirtual 53, 3) := by decide +kernel
theorem d_L_law_491 : decode (tm_c 0) 491 = .ok (.aload_n 2, 1) := by decide +kernel
theorem d_L_law_492 : decode (tm_c 0) 492 = .ok (.aload_n 0, 1) := by decide +kernel
theorem d_L_law_493 : decode (tm_c 0) 493 = .ok (.iload_n 3, 1) := by decide +kernel
theorem d_L_law_494 : decode (tm_c 0) 494 = .ok (.iconst (1), 1) := by decide +kernel
theorem d_L_law_495 : decode (tm_c 0) 495 = .ok (.iadd, 1) := by decide +kernel
theorem d_L_law_496 : decode (tm_c 0) 496 = .ok (.iaload, 1) := by decide +kernel
theorem d_L_law_497 : decode (tm_c 0) 497 = .ok (.aload_n 0, 1) := by decide +kernel
theorem d_L_law_498 : decode (tm_c 0) 498 = .ok (.iload_n 3, 1) := by decide +kernel
theorem d_L_law_499 : decode (tm_c 0) 499 = .ok (.iconst (2), 1) := by decide +kernel
theorem d_L_law_500 : decode (tm_c 0) 500 = .ok (.iadd, 1) := by decide +kernel
theorem d_L_law_501 : decode (tm_c 0) 501 = .ok (.iaload, 1) := by decide +kernel
theorem d_L_law_502 : decode (tm_c 0) 502 = .ok (.invokevirtual 56, 3) := by decide +kernel
theorem d_L_law_505 : decode (tm_c 0) 505 = .ok (.if_icmp .eq (309), 3) := by decide +kernel
theorem d_L_law_508 : decode (tm_c 0) 508 = .ok (.iconst (0), 1) := by decide +kernel
theorem d_L_law_509 : decode (tm_c 0) 509 = .ok (.ireturn, 1) := by decide +kernel
theorem d_L_law_510 : decode (tm_c 0) 510 = .ok (.aload_n 1, 1) := by decide +kernel
theorem d_L_law_511 : decode (tm_c 0) 511 = .ok (.aload_n 0, 1) := by decide +kernel
theorem d_L_law_512 : decode (tm_c 0) 512 = .ok (.iload_n 3, 1) := by decide +kernel
theorem d_L_law_513 : decode (tm_c 0) 513 = .ok (.iconst (1), 1) := by decide +kernel
theorem d_L_law_514 : decode (tm_c 0) 514 = .ok (.iadd, 1) := by decide +kernel
theorem d_L_law_515 : decode (tm_c 0) 515 = .ok (.iaload, 1) := by decide +kernel
theorem d_L_law_516 : decode (tm_c 0) 516 = .ok (.aload_n 0, 1) := by decide +kernel
theorem d_L_law_517 : decode (tm_c 0) 517 = .ok (.iload_n 3, 1) := by decide +kernel
theorem d_L_law_518 : decode (tm_c 0) 518 = .ok (.iconst (2), 1) := by decide +kernel
theorem d_L_law_519 : decode (tm_c 0) 519 = .ok (.iadd, 1) := by decide +kernel
theorem d_L_law_520 : decode (tm_c 0) 520 = .ok (.iaload, 1) := by decide +kernel
theorem d_L_law_521 : decode (tm_c 0) 521 = .ok (.invokevirtual 57, 3) := by decide +kernel
theorem d_L_law_524 : decode (tm_c 0) 524 = .ok (.aload_n 2, 1) := by decide +kernel
theorem d_L_law_525 : decode (tm_c 0) 525 = .ok (.aload_n 0, 1) := by decide +kernel
theorem d_L_law_526 : decode (tm_c 0) 526 = .ok (.iload_n 3, 1) := by decide +kernel
theorem d_L_law_527 : decode (tm_c 0) 527 = .ok (.iconst (1), 1) := by decide +kernel
theorem d_L_law_528 : decode (tm_c 0) 528 = .ok (.iadd, 1) := by decide +kernel
theorem d_L_law_529 : decode (tm_c 0) 529 = .ok (.iaload, 1) := by decide +kernel
theorem d_L_law_530 : decode (tm_c 0) 530 = .ok (.aload_n 0, 1) := by decide +kernel
theorem d_L_law_531 : decode (tm_c 0) 531 = .ok (.iload_n 3, 1) := by decide +kernel
theorem d_L_law_532 : decode (tm_c 0) 532 = .ok (.iconst (2), 1) := by decide +kernel
theorem d_L_law_533 : decode (tm_c 0) 533 = .ok (.iadd, 1) := by decide +kernel
theorem d_L_law_534 : decode (tm_c 0) 534 = .ok (.iaload, 1) := by decide +kernel
theorem d_L_law_535 : decode (tm_c 0) 535 = .ok (.invokevirtual 60, 3) := by decide +kernel
theorem d_L_law_538 : decode (tm_c 0) 538 = .ok (.if_icmp .eq (276), 3) := by decide +kernel
theorem d_L_law_541 : decode (tm_c 0) 541 = .ok (.iconst (0), 1) := by decide +kernel
theorem d_L_law_542 : decode (tm_c 0) 542 = .ok (.ireturn, 1) := by decide +kernel
theorem d_L_law_543 : decode (tm_c 0) 543 = .ok (.aload_n 1, 1) := by decide +kernel
theorem d_L_law_544 : decode (tm_c 0) 544 = .ok (.aload_n 0, 1) := by decide +kernel
theorem d_L_law_545 : decode (tm_c 0) 545 = .ok (.iload_n 3, 1) := by decide +kernel
theorem d_L_law_546 : decode (tm_c 0) 546 = .ok (.iconst (1), 1) := by decide +kernel
theorem d_L_law_547 : decode (tm_c 0) 547 = .ok (.iadd, 1) := by decide +kernel
theorem d_L_law_548 : decode (tm_c 0) 548 = .ok (.iaload, 1) := by decide +kernel
theorem d_L_law_549 : decode (tm_c 0) 549 = .ok (.aload_n 0, 1) := by decide +kernel
theorem d_L_law_550 : decode (tm_c 0) 550 = .ok (.iload_n 3, 1) := by decide +kernel
theorem d_L_law_551 : decode (tm_c 0) 551 = .ok (.iconst (2), 1) := by decide +kernel
theorem d_L_law_552 : decode (tm_c 0) 552 = .ok (.iadd, 1) := by decide +kernel
theorem d_L_law_553 : decode (tm_c 0) 553 = .ok (.iaload, 1) := by decide +kernel
theorem d_L_law_554 : decode (tm_c 0) 554 = .ok (.aload_n 0, 1) := by decide +kernel
theorem d_L_law_555 : decode (tm_c 0) 555 = .ok (.iload_n 3, 1) := by decide +kernel
theorem d_L_law_556 : decode (tm_c 0) 556 = .ok (.iconst (3), 1) := by decide +kernel
theorem d_L_law_557 : decode (tm_c 0) 557 = .ok (.iadd, 1) := by decide +kernel
theorem d_L_law_558 : decode (tm_c 0) 558 = .ok (.iaload, 1) := by decide +kernel
theorem d_L_law_559 : decode (tm_c 0) 559 = .ok (.invokevirtual 61, 3) := by decide +kernel
theorem d_L_law_562 : decode (tm_c 0) 562 = .ok (.aload_n 2, 1) := by decide +kernel
theorem d_L_law_563 : decode (tm_c 0) 563 = .ok (.aload_n 0, 1) := by decide +kernel
theorem d_L_law_564 : decode (tm_c 0) 564 = .ok (.iload_n 3, 1) := by decide +kernel
theorem d_L_law_565 : decode (tm_c 0) 565 = .ok (.iconst (1), 1) := by decide +kernel
theorem d_L_law_566 : decode (tm_c 0) 566 = .ok (.iadd, 1) := by decide +kernel
theorem d_L_law_567 : decode (tm_c 0) 567 = .ok (.iaload, 1) := by decide +kernel
theorem d_L_law_568 : decode (tm_c 0) 568 = .ok (.aload_n 0, 1) := by decide +kernel
theorem d_L_law_569 : decode (tm_c 0) 569 = .ok (.iload_n 3, 1) := by decide +kernel
theorem d_L_law_570 : decode (tm_c 0) 570 = .ok (.iconst (2), 1) := by decide +kernel
theorem d_L_law_571 : decode (tm_c 0) 571 = .ok (.iadd, 1) := by decide +kernel
theorem d_L_law_572 : decode (tm_c 0) 572 = .ok (.iaload, 1) := by decide +kernel
theorem d_L_law_573 : decode (tm_c 0) 573 = .ok (.aload_n 0, 1) := by decide +kernel
theorem d_L_law_574 : decode (tm_c 0) 574 = .ok (.iload_n 3, 1) := by decide +kernel
theorem d_L_law_575 : decode (tm_c 0) 575 = .ok (.iconst (3), 1) := by decide +kernel
theorem d_L_law_576 : decode (tm_c 0) 576 = .ok (.iadd, 1) := by decide +kernel
theorem d_L_law_577 : decode (tm_c 0) 577 = .ok (.iaload, 1) := by decide +kernel
theorem d_L_law_578 : decode (tm_c 0) 578 = .ok (.invokevirtual 64, 3) := by decide +kernel
theorem d_L_law_581 : decode (tm_c 0) 581 = .ok (.if_icmp .eq (233), 3) := by decide +kernel
theorem d_L_law_584 : decode (tm_c 0) 584 = .ok (.iconst (0), 1) := by decide +kernel
theorem d_L_law_585 : decode (tm_c 0) 585 = .ok (.ireturn, 1) := by decide +kernel
theorem d_L_law_586 : decode (tm_c 0) 586 = .ok (.aload_n 1, 1) := by decide +kernel
theorem d_L_law_587 : decode (tm_c 0) 587 = .ok (.aload_n 0, 1) := by decide +kernel
theorem d_L_law_588 : decode (tm_c 0) 588 = .ok (.iload_n 3, 1) := by decide +kernel
theorem d_L_law_589 : decode (tm_c 0) 589 = .ok (.iconst (1), 1) := by decide +kernel
theorem d_L_law_590 : decode (tm_c 0) 590 = .ok (.iadd, 1) := by decide +kernel
theorem d_L_law_591 : decode (tm_c 0) 591 = .ok (.iaload, 1) := by decide +kernel
theorem d_L_law_592 : decode (tm_c 0) 592 = .ok (.aload_n 0, 1) := by decide +kernel
theorem d_L_law_593 : decode (tm_c 0) 593 = .ok (.iload_n 3, 1) := by decide +kernel
theorem d_L_law_594 : decode (tm_c 0) 594 = .ok (.iconst (2), 1) := by decide +kernel
theorem d_L_law_595 : decode (tm_c 0) 595 = .ok (.iadd, 1) := by decide +kernel
theorem d_L_law_596 : decode (tm_c 0) 596 = .ok (.iaload, 1) := by decide +kernel
theorem d_L_law_597 : decode (tm_c 0) 597 = .ok (.aload_n 0, 1) := by decide +kernel
theorem d_L_law_598 : decode (tm_c 0) 598 = .ok (.iload_n 3, 1) := by decide +kernel
theorem d_L_law_599 : decode (tm_c 0) 599 = .ok (.iconst (3), 1) := by decide +kernel
theorem d_L_law_600 : decode (tm_c 0) 600 = .ok (.iadd, 1) := by decide +kernel
theorem d_L_law_601 : decode (tm_c 0) 601 = .ok (.iaload, 1) := by decide +kernel
theorem d_L_law_602 : decode (tm_c 0) 602 = .ok (.invokevirtual 65, 3) := by decide +kernel
theorem d_L_law_605 : decode (tm_c 0) 605 = .ok (.aload_n 2, 1) := by decide +kernel
theorem d_L_law_606 : decode (tm_c 0) 606 = .ok (.aload_n 0, 1) := by decide +kernel
theorem d_L_law_607 : decode (tm_c 0) 607 = .ok (.iload_n 3, 1) := by decide +kernel
theorem d_L_law_608 : decode (tm_c 0) 608 = .ok (.iconst (1), 1) := by decide +kernel
theorem d_L_law_609 : decode (tm_c 0) 609 = .ok (.iadd, 1) := by decide +kernel
theorem d_L_law_610 : decode (tm_c 0) 610 = .ok (.iaload, 1) := by decide +kernel
theorem d_L_law_611 : decode (tm_c 0) 611 = .ok (.aload_n 0, 1) := by decide +kernel
theorem d_L_law_612 : decode (tm_c 0) 612 = .ok (.iload_n 3, 1) := by decide +kernel
theorem d_L_law_613 : decode (tm_c 0) 613 = .ok (.iconst (2), 1) := by decide +kernel
theorem d_L_law_614 : decode (tm_c 0) 614 = .ok (.iadd, 1) := by decide +kernel
theorem d_L_law_615 : decode (tm_c 0) 615 = .ok (.iaload, 1) := by decide +kernel
theorem d_L_law_616 : decode (tm_c 0) 616 = .ok (.aload_n 0, 1) := by decide +kernel
theorem d_L_law_617 : decode (tm_c 0) 617 = .ok (.iload_n 3, 1) := by decide +kernel
theorem d_L_law_618 : decode (tm_c 0) 618 = .ok (.iconst (3), 1) := by decide +kernel
theorem d_L_law_619 : decode (tm_c 0) 619 = .ok (.iadd, 1) := by decide +kernel
theorem d_L_law_620 : decode (tm_c 0) 620 = .ok (.iaload, 1) := by decide +kernel
theorem d_L_law_621 : decode (tm_c 0) 621 = .ok (.invokevirtual 68, 3) := by decide +kernel
theorem d_L_law_624 : decode (tm_c 0) 624 = .ok (.if_icmp .eq (190), 3) := by decide +kernel
theorem d_L_law_627 : decode (tm_c 0) 627 = .ok (.iconst (0), 1) := by decide +kernel
theorem d_L_law_628 : decode (tm_c 0) 628 = .ok (.ireturn, 1) := by decide +kernel
theorem d_L_law_629 : decode (tm_c 0) 629 = .ok (.aload_n 1, 1) := by decide +kernel
theorem d_L_law_630 : decode (tm_c 0) 630 = .ok (.aload_n 0, 1) := by decide +kernel
theorem d_L_law_631 : decode (tm_c 0) 631 = .ok (.iload_n 3, 1) := by decide +kernel
theorem d_L_law_632 : decode (tm_c 0) 632 = .ok (.iconst (1), 1) := by decide +kernel
theorem d_L_law_633 : decode (tm_c 0) 633 = .ok (.iadd, 1) := by decide +kernel
theorem d_L_law_634 : decode (tm_c 0) 634 = .ok (.iaload, 1) := by decide +kernel
theorem d_L_law_635 : decode (tm_c 0) 635 = .ok (.aload_n 0, 1) := by decide +kernel
theorem d_L_law_636 : decode (tm_c 0) 636 = .ok (.iload_n 3, 1) := by decide +kernel
theorem d_L_law_637 : decode (tm_c 0) 637 = .ok (.iconst (2), 1) := by decide +kernel
theorem d_L_law_638 : decode (tm_c 0) 638 = .ok (.iadd, 1) := by decide +kernel
theorem d_L_law_639 : decode (tm_c 0) 639 = .ok (.iaload, 1) := by decide +kernel
theorem d_L_law_640 : decode (tm_c 0) 640 = .ok (.aload_n 0, 1) := by decide +kernel
theorem d_L_law_641 : decode (tm_c 0) 641 = .ok (.iload_n 3, 1) := by decide +kernel
theorem d_L_law_642 : decode (tm_c 0) 642 = .ok (.iconst (3), 1) := by decide +kernel
theorem d_L_law_643 : decode (tm_c 0) 643 = .ok (.iadd, 1) := by decide +kernel
theorem d_L_law_644 : decode (tm_c 0) 644 = .ok (.iaload, 1) := by decide +kernel
theorem d_L_law_645 : decode (tm_c 0) 645 = .ok (.invokevirtual 69, 3) := by decide +kernel
theorem d_L_law_648 : decode (tm_c 0) 648 = .ok (.aload_n 2, 1) := by decide +kernel
theorem d_L_law_649 : decode (tm_c 0) 649 = .ok (.aload_n 0, 1) := by decide +kernel
theorem d_L_law_650 : decode (tm_c 0) 650 = .ok (.iload_n 3, 1) := by decide +kernel
theorem d_L_law_651 : decode (tm_c 0) 651 = .ok (.iconst (1), 1) := by decide +kernel
theorem d_L_law_652 : decode (tm_c 0) 652 = .ok (.iadd, 1) := by decide +kernel
theorem d_L_law_653 : decode (tm_c 0) 653 = .ok (.iaload, 1) := by decide +kernel
theorem d_L_law_654 : decode (tm_c 0) 654 = .ok (.aload_n 0, 1) := by decide +kernel
theorem d_L_law_655 : decode (tm_c 0) 655 = .ok (.iload_n 3, 1) := by decide +kernel
theorem d_L_law_656 : decode (tm_c 0) 656 = .ok (.iconst (2), 1) := by decide +kernel
theorem d_L_law_657 : decode (tm_c 0) 657 = .ok (.iadd, 1) := by decide +kernel
theorem d_L_law_658 : decode (tm_c 0) 658 = .ok (.iaload, 1) := by decide +kernel
theorem d_L_law_659 : decode (tm_c 0) 659 = .ok (.aload_n 0, 1) := by decide +kernel
theorem d_L_law_660 : decode (tm_c 0) 660 = .ok (.iload_n 3, 1) := by decide +kernel
theorem d_L_law_661 : decode (tm_c 0) 661 = .ok (.iconst (3), 1) := by decide +kernel
theorem d_L_law_662 : decode (tm_c 0) 662 = .ok (.iadd, 1) := by decide +kernel
theorem d_L_law_663 : decode (tm_c 0) 663 = .ok (.iaload, 1) := by decide +kernel
theorem d_L_law_664 : decode (tm_c 0) 664 = .ok (.invokevirtual 72, 3) := by decide +kernel
theorem d_L_law_667 : decode (tm_c 0) 667 = .ok (.if_icmp .eq (147), 3) := by decide +kernel
theorem d_L_law_670 : decode (tm_c 0) 670 = .ok (.iconst (0), 1) := by decide +kernel
theorem d_L_law_671 : decode (tm_c 0) 671 = .ok (.ireturn, 1) := by decide +kernel
theorem d_L_law_672 : decode (tm_c 0) 672 = .ok (.aload_n 1, 1) := by decide +kernel
theorem d_L_law_673 : decode (tm_c 0) 673 = .ok (.aload_n 0, 1) := by decide +kernel
theorem d_L_law_674 : decode (tm_c 0) 674 = .ok (.iload_n 3, 1) := by decide +kernel
theorem d_L_law_675 : decode (tm_c 0) 675 = .ok (.iconst (1), 1) := by decide +kernel
theorem d_L_law_676 : decode (tm_c 0) 676 = .ok (.iadd, 1) := by decide +kernel
theorem d_L_law_677 : decode (tm_c 0) 677 = .ok (.iaload, 1) := by decide +kernel
theorem d_L_law_678 : decode (tm_c 0) 678 = .ok (.aload_n 0, 1) := by decide +kernel
theorem d_L_law_679 : decode (tm_c 0) 679 = .ok (.iload_n 3, 1) := by decide +kernel
theorem d_L_law_680 : decode (tm_c 0) 680 = .ok (.iconst (2), 1) := by decide +kernel
theorem d_L_law_681 : decode (tm_c 0) 681 = .ok (.iadd, 1) := by decide +kernel
theorem d_L_law_682 : decode (tm_c 0) 682 = .ok (.iaload, 1) := by decide +kernel
theorem d_L_law_683 : decode (tm_c 0) 683 = .ok (.aload_n 0, 1) := by decide +kernel
theorem d_L_law_684 : decode (tm_c 0) 684 = .ok (.iload_n 3, 1) := by decide +kernel
theorem d_L_law_685 : decode (tm_c 0) 685 = .ok (.iconst (3), 1) := by decide +kernel
theorem d_L_law_686 : decode (tm_c 0) 686 = .ok (.iadd, 1) := by decide +kernel
theorem d_L_law_687 : decode (tm_c 0) 687 = .ok (.iaload, 1) := by decide +kernel
theorem d_L_law_688 : decode (tm_c 0) 688 = .ok (.invokevirtual 73, 3) := by decide +kernel
theorem d_L_law_691 : decode (tm_c 0) 691 = .ok (.aload_n 2, 1) := by decide +kernel
theorem d_L_law_692 : decode (tm_c 0) 692 = .ok (.aload_n 0, 1) := by decide +kernel
theorem d_L_law_693 : decode (tm_c 0) 693 = .ok (.iload_n 3, 1) := by decide +kernel
theorem d_L_law_694 : decode (tm_c 0) 694 = .ok (.iconst (1), 1) := by decide +kernel
theorem d_L_law_695 : decode (tm_c 0) 695 = .ok (.iadd, 1) := by decide +kernel
theorem d_L_law_696 : decode (tm_c 0) 696 = .ok (.iaload, 1) := by decide +kernel
theorem d_L_law_697 : decode (tm_c 0) 697 = .ok (.aload_n 0, 1) := by decide +kernel
theorem d_L_law_698 : decode (tm_c 0) 698 = .ok (.iload_n 3, 1) := by decide +kernel
theorem d_L_law_699 : decode (tm_c 0) 699 = .ok (.iconst (2), 1) := by decide +kernel
theorem d_L_law_700 : decode (tm_c 0) 700 = .ok (.iadd, 1) := by decide +kernel
theorem d_L_law_701 : decode (tm_c 0) 701 = .ok (.iaload, 1) := by decide +kernel
theorem d_L_law_702 : decode (tm_c 0) 702 = .ok (.aload_n 0, 1) := by decide +kernel
theorem d_L_law_703 : decode (tm_c 0) 703 = .ok (.iload_n 3, 1) := by decide +kernel
theorem d_L_law_704 : decode (tm_c 0) 704 = .ok (.iconst (3), 1) := by decide +kernel
theorem d_L_law_705 : decode (tm_c 0) 705 = .ok (.iadd, 1) := by decide +kernel
theorem d_L_law_706 : decode (tm_c 0) 706 = .ok (.iaload, 1) := by decide +kernel
theorem d_L_law_707 : decode (tm_c 0) 707 = .ok (.invokevirtual 76, 3) := by decide +kernel
theorem d_L_law_710 : decode (tm_c 0) 710 = .ok (.if_icmp .eq (104), 3) := by decide +kernel
theorem d_L_law_713 : decode (tm_c 0) 713 = .ok (.iconst (0), 1) := by decide +kernel
theorem d_L_law_714 : decode (tm_c 0) 714 = .ok (.ireturn, 1) := by decide +kernel
theorem d_L_law_715 : decode (tm_c 0) 715 = .ok (.aload_n 1, 1) := by decide +kernel
theorem d_L_law_716 : decode (tm_c 0) 716 = .ok (.aload_n 0, 1) := by decide +kernel
theorem d_L_law_717 : decode (tm_c 0) 717 = .ok (.iload_n 3, 1) := by decide +kernel
theorem d_L_law_718 : decode (tm_c 0) 718 = .ok (.iconst (1), 1) := by decide +kernel
theorem d_L_law_719 : decode (tm_c 0) 719 = .ok (.iadd, 1) := by decide +kernel
theorem d_L_law_720 : decode (tm_c 0) 720 = .ok (.iaload, 1) := by decide +kernel
theorem d_L_law_721 : decode (tm_c 0) 721 = .ok (.aload_n 0, 1) := by decide +kernel
theorem d_L_law_722 : decode (tm_c 0) 722 = .ok (.iload_n 3, 1) := by decide +kernel
theorem d_L_law_723 : decode (tm_c 0) 723 = .ok (.iconst (2), 1) := by decide +kernel
theorem d_L_law_724 : decode (tm_c 0) 724 = .ok (.iadd, 1) := by decide +kernel
theorem d_L_law_725 : decode (tm_c 0) 725 = .ok (.iaload, 1) := by decide +kernel
theorem d_L_law_726 : decode (tm_c 0) 726 = .ok (.invokevirtual 77, 3) := by decide +kernel
theorem d_L_law_729 : decode (tm_c 0) 729 = .ok (.aload_n 2, 1) := by decide +kernel
theorem d_L_law_730 : decode (tm_c 0) 730 = .ok (.aload_n 0, 1) := by decide +kernel
theorem d_L_law_731 : decode (tm_c 0) 731 = .ok (.iload_n 3, 1) := by decide +kernel
theorem d_L_law_732 : decode (tm_c 0) 732 = .ok (.iconst (1), 1) := by decide +kernel
theorem d_L_law_733 : decode (tm_c 0) 733 = .ok (.iadd, 1) := by decide +kernel
theorem d_L_law_734 : decode (tm_c 0) 734 = .ok (.iaload, 1) := by decide +kernel
theorem d_L_law_735 : decode (tm_c 0) 735 = .ok (.aload_n 0, 1) := by decide +kernel
theorem d_L_law_736 : decode (tm_c 0) 736 = .ok (.iload_n 3, 1) := by decide +kernel
theorem d_L_law_737 : decode (tm_c 0) 737 = .ok (.iconst (2), 1) := by decide +kernel
theorem d_L_law_738 : decode (tm_c 0) 738 = .ok (.iadd, 1) := by decide +kernel
theorem d_L_law_739 : decode (tm_c 0) 739 = .ok (.iaload, 1) := by decide +kernel
theorem d_L_law_740 : decode (tm_c 0) 740 = .ok (.invokevirtual 80, 3) := by decide +kernel
theorem d_L_law_743 : decode (tm_c 0) 743 = .ok (.if_icmp .eq (71), 3) := by decide +kernel
theorem d_L_law_746 : decode (tm_c 0) 746 = .ok (.iconst (0), 1) := by decide +kernel
theorem d_L_law_747 : decode (tm_c 0) 747 = .ok (.ireturn, 1) := by decide +kernel
theorem d_L_law_748 : decode (tm_c 0) 748 = .ok (.aload_n 1, 1) := by decide +kernel
theorem d_L_law_749 : decode (tm_c 0) 749 = .ok (.aload_n 0, 1) := by decide +kernel
theorem d_L_law_750 : decode (tm_c 0) 750 = .ok (.iload_n 3, 1) := by decide +kernel
theorem d_L_law_751 : decode (tm_c 0) 751 = .ok (.iconst (1), 1) := by decide +kernel
theorem d_L_law_752 : decode (tm_c 0) 752 = .ok (.iadd, 1) := by decide +kernel
theorem d_L_law_753 : decode (tm_c 0) 753 = .ok (.iaload, 1) := by decide +kernel
theorem d_L_law_754 : decode (tm_c 0) 754 = .ok (.aload_n 0, 1) := by decide +kernel
theorem d_L_law_755 : decode (tm_c 0) 755 = .ok (.iload_n 3, 1) := by decide +kernel
theorem d_L_law_756 : decode (tm_c 0) 756 = .ok (.iconst (2), 1) := by decide +kernel
theorem d_L_law_757 : decode (tm_c 0) 757 = .ok (.iadd, 1) := by decide +kernel
theorem d_L_law_758 : decode (tm_c 0) 758 = .ok (.iaload, 1) := by decide +kernel
theorem d_L_law_759 : decode (tm_c 0) 759 = .ok (.invokevirtual 81, 3) := by decide +kernel
theorem d_L_law_762 : decode (tm_c 0) 762 = .ok (.aload_n 2, 1) := by decide +kernel
theorem d_L_law_763 : decode (tm_c 0) 763 = .ok (.aload_n 0, 1) := by decide +kernel
theorem d_L_law_764 : decode (tm_c 0) 764 = .ok (.iload_n 3, 1) := by decide +kernel
theorem d_L_law_765 : decode (tm_c 0) 765 = .ok (.iconst (1), 1) := by decide +kernel
theorem d_L_law_766 : decode (tm_c 0) 766 = .ok (.iadd, 1) := by decide +kernel
theorem d_L_law_767 : decode (tm_c 0) 767 = .ok (.iaload, 1) := by decide +kernel
theorem d_L_law_768 : decode (tm_c 0) 768 = .ok (.aload_n 0, 1) := by decide +kernel
theorem d_L_law_769 : decode (tm_c 0) 769 = .ok (.iload_n 3, 1) := by decide +kernel
theorem d_L_law_770 : decode (tm_c 0) 770 = .ok (.iconst (2), 1) := by decide +kernel
theorem d_L_law_771 : decode (tm_c 0) 771 = .ok (.iadd, 1) := by decide +kernel
theorem d_L_law_772 : decode (tm_c 0) 772 = .ok (.iaload, 1) := by decide +kernel
theorem d_L_law_773 : decode (tm_c 0) 773 = .ok (.invokevirtual 84, 3) := by decide +kernel
theorem d_L_law_776 : decode (tm_c 0) 776 = .ok (.if_icmp .eq (38), 3) := by decide +kernel
theorem d_L_law_779 : decode (tm_c 0) 779 = .ok (.iconst (0), 1) := by decide +kernel
theorem d_L_law_780 : decode (tm_c 0) 780 = .ok (.ireturn, 1) := by decide +kernel
theorem d_L_law_781 : decode (tm_c 0) 781 = .ok (.aload_n 1, 1) := by decide +kernel
theorem d_L_law_782 : decode (tm_c 0) 782 = .ok (.aload_n 0, 1) := by decide +kernel
theorem d_L_law_783 : decode (tm_c 0) 783 = .ok (.iload_n 3, 1) := by decide +kernel
theorem d_L_law_784 : decode (tm_c 0) 784 = .ok (.iconst (1), 1) := by decide +kernel
theorem d_L_law_785 : decode (tm_c 0) 785 = .ok (.iadd, 1) := by decide +kernel
theorem d_L_law_786 : decode (tm_c 0) 786 = .ok (.iaload, 1) := by decide +kernel
theorem d_L_law_787 : decode (tm_c 0) 787 = .ok (.aload_n 0, 1) := by decide +kernel
theorem d_L_law_788 : decode (tm_c 0) 788 = .ok (.iload_n 3, 1) := by decide +kernel
theorem d_L_law_789 : decode (tm_c 0) 789 = .ok (.iconst (2), 1) := by decide +kernel
theorem d_L_law_790 : decode (tm_c 0) 790 = .ok (.iadd, 1) := by decide +kernel
theorem d_L_law_791 : decode (tm_c 0) 791 = .ok (.iaload, 1) := by decide +kernel
theorem d_L_law_792 : decode (tm_c 0) 792 = .ok (.invokevirtual 85, 3) := by decide +kernel
theorem d_L_law_795 : decode (tm_c 0) 795 = .ok (.aload_n 2, 1) := by decide +kernel
theorem d_L_law_796 : decode (tm_c 0) 796 = .ok (.aload_n 0, 1) := by decide +kernel
theorem d_L_law_797 : decode (tm_c 0) 797 = .ok (.iload_n 3, 1) := by decide +kernel
theorem d_L_law_798 : decode (tm_c 0) 798 = .ok (.iconst (1), 1) := by decide +kernel
theorem d_L_law_799 : decode (tm_c 0) 799 = .ok (.iadd, 1) := by decide +kernel
theorem d_L_law_800 : decode (tm_c 0) 800 = .ok (.iaload, 1) := by decide +kernel
theorem d_L_law_801 : decode (tm_c 0) 801 = .ok (.aload_n 0, 1) := by decide +kernel
theorem d_L_law_802 : decode (tm_c 0) 802 = .ok (.iload_n 3, 1) := by decide +kernel
theorem d_L_law_803 : decode (tm_c 0) 803 = .ok (.iconst (2), 1) := by decide +kernel
theorem d_L_law_804 : decode (tm_c 0) 804 = .ok (.iadd, 1) := by decide +kernel
theorem d_L_law_805 : decode (tm_c 0) 805 = .ok (.iaload, 1) := by decide +kernel
theorem d_L_law_806 : decode (tm_c 0) 806 = .ok (.invokevirtual 88, 3) := by decide +kernel
theorem d_L_law_809 : decode (tm_c 0) 809 = .ok (.if_icmp .eq (5), 3) := by decide +kernel
theorem d_L_law_812 : decode (tm_c 0) 812 = .ok (.iconst (0), 1) := by decide +kernel
theorem d_L_law_813 : decode (tm_c 0) 813 = .ok (.ireturn, 1) := by decide +kernel
theorem d_L_law_814 : decode (tm_c 0) 814 = .ok (.iinc 3 (6), 3) := by decide +kernel
theorem d_L_law_817 : decode (tm_c 0) 817 = .ok (.goto (-799), 3) := by decide +kernel
theorem d_L_law_820 : decode (tm_c 0) 820 = .ok (.iconst (1), 1) := by decide +kernel
theorem d_L_law_821 : decode (tm_c 0) 821 = .ok (.ireturn, 1) := by decide +kernel
theorem g_L_law_0 : jSnd 0 0 (o_new 3 13 4) := snd_new (ci := 3) d_L_law_0 rfl tm_in3 tm_D3 tm_ty3 wd_0 wd_1 wd_2 rfl tm_df3
theorem g_L_law_3 : jSnd 0 3 (o_dup 4) := snd_dup d_L_law_3
theorem g_L_law_4 : jSnd 0 4 (o_call 7 1 1 2 13 true) := snd_callI (ci := 3) (n := 0) rfl d_L_law_4 (by decide) (by decide) (by decide) wc_1 wd_3 wd_4 rfl rfl wd_2 (by decide +kernel) (by decide) (by decide)
theorem g_L_law_7 : jSnd 0 7 (o_astore 8 1) := snd_astore_n d_L_law_7 rfl (by decide)
theorem g_L_law_8 : jSnd 0 8 (o_new 11 14 31) := snd_new (ci := 4) d_L_law_8 rfl tm_in4 tm_D4 tm_ty4 wd_5 wd_6 wd_7 rfl tm_df4
theorem g_L_law_11 : jSnd 0 11 (o_dup 12) := snd_dup d_L_law_11
theorem g_L_law_12 : jSnd 0 12 (o_call 15 33 1 1 14 true) := snd_callI (ci := 4) (n := 0) rfl d_L_law_12 (by decide) (by decide) (by decide) wc_33 wd_8 wd_9 rfl rfl wd_7 (by decide +kernel) (by decide) (by decide)
theorem g_L_law_15 : jSnd 0 15 (o_astore 16 2) := snd_astore_n d_L_law_15 rfl (by decide)
theorem g_L_law_16 : jSnd 0 16 (o_push 17 (0)) := snd_iconst (n := 0) (z := 0) d_L_law_16 (by decide) (by unfold jrg; omega)
theorem g_L_law_17 : jSnd 0 17 (o_istore 18 3) := snd_istore_n d_L_law_17 rfl (by decide)
theorem g_L_law_18 : jSnd 0 18 (o_iload 19 3) := snd_iload_n d_L_law_18 rfl
theorem g_L_law_19 : jSnd 0 19 (o_aload 20 0) := snd_aload_n d_L_law_19 rfl
theorem g_L_law_20 : jSnd 0 20 (o_slen 21) := snd_slen d_L_law_20
theorem g_L_law_21 : jSnd 0 21 (o_push 23 (6)) := snd_bipush (n := 6) (z := 6) d_L_law_21 (by decide) (by unfold jrg; omega)
theorem g_L_law_23 : jSnd 0 23 (o_bin 24 f_sub) := snd_isub d_L_law_23
theorem g_L_law_24 : jSnd 0 24 (o_ic_gt 27 820) := snd_ic_gt d_L_law_24 (by decide)
theorem g_L_law_27 : jSnd 0 27 (o_aload 28 0) := snd_aload_n d_L_law_27 rfl
theorem g_L_law_28 : jSnd 0 28 (o_iload 29 3) := snd_iload_n d_L_law_28 rfl
theorem g_L_law_29 : jSnd 0 29 (o_sald 30) := snd_sald d_L_law_29
theorem g_L_law_30 : jSnd 0 30 (o_push 32 (31)) := snd_bipush (n := 31) (z := 31) d_L_law_30 (by decide) (by unfold jrg; omega)
theorem g_L_law_32 : jSnd 0 32 (o_bin 33 f_and) := snd_iand d_L_law_32
theorem g_L_law_33 : jSnd 0 33 (o_switch 814 [(0, 120), (1, 163), (2, 196), (3, 259), (4, 302), (5, 345), (6, 378), (7, 411), (8, 444), (9, 477), (10, 510), (11, 543), (12, 586), (13, 629), (14, 672), (15, 715), (16, 748), (17, 781)]) := snd_table (t := [(0, 120), (1, 163), (2, 196), (3, 259), (4, 302), (5, 345), (6, 378), (7, 411), (8, 444), (9, 477), (10, 510), (11, 543), (12, 586), (13, 629), (14, 672), (15, 715), (16, 748), (17, 781)]) d_L_law_33 (by decide) (fun x h1 h2 => by rcases (show x = 0 ∨ x = 1 ∨ x = 2 ∨ x = 3 ∨ x = 4 ∨ x = 5 ∨ x = 6 ∨ x = 7 ∨ x = 8 ∨ x = 9 ∨ x = 10 ∨ x = 11 ∨ x = 12 ∨ x = 13 ∨ x = 14 ∨ x = 15 ∨ x = 16 ∨ x = 17 by omega) with rfl | rfl | rfl | rfl | rfl | rfl | rfl | rfl | rfl | rfl | rfl | rfl | rfl | rfl | rfl | rfl | rfl | rfl <;> exact ⟨_, rfl, rfl⟩) (fun x h => by simp only [jsw]; rw [if_neg (by omega)]; rw [if_neg (by omega)]; rw [if_neg (by omega)]; rw [if_neg (by omega)]; rw [if_neg (by omega)]; rw [if_neg (by omega)]; rw [if_neg (by omega)]; rw [if_neg (by omega)]; rw [if_neg (by omega)]; rw [if_neg (by omega)]; rw [if_neg (by omega)]; rw [if_neg (by omega)]; rw [if_neg (by omega)]; rw [if_neg (by omega)]; rw [if_neg (by omega)]; rw [if_neg (by omega)]; rw [if_neg (by omega)]; rw [if_neg (by omega)])
theorem g_L_law_120 : jSnd 0 120 (o_aload 121 1) := snd_aload_n d_L_law_120 rfl
theorem g_L_law_121 : jSnd 0 121 (o_aload 122 0) := snd_aload_n d_L_law_121 rfl
theorem g_L_law_122 : jSnd 0 122 (o_iload 123 3) := snd_iload_n d_L_law_122 rfl
theorem g_L_law_123 : jSnd 0 123 (o_push 124 (1)) := snd_iconst (n := 1) (z := 1) d_L_law_123 (by decide) (by unfold jrg; omega)
theorem g_L_law_124 : jSnd 0 124 (o_bin 125 f_add) := snd_iadd d_L_law_124
theorem g_L_law_125 : jSnd 0 125 (o_sald 126) := snd_sald d_L_law_125
theorem g_L_law_126 : jSnd 0 126 (o_aload 127 0) := snd_aload_n d_L_law_126 rfl
theorem g_L_law_127 : jSnd 0 127 (o_iload 128 3) := snd_iload_n d_L_law_127 rfl
theorem g_L_law_128 : jSnd 0 128 (o_push 129 (2)) := snd_iconst (n := 2) (z := 2) d_L_law_128 (by decide) (by unfold jrg; omega)
theorem g_L_law_129 : jSnd 0 129 (o_bin 130 f_add) := snd_iadd d_L_law_129
theorem g_L_law_130 : jSnd 0 130 (o_sald 131) := snd_sald d_L_law_130
theorem g_L_law_131 : jSnd 0 131 (o_aload 132 0) := snd_aload_n d_L_law_131 rfl
theorem g_L_law_132 : jSnd 0 132 (o_iload 133 3) := snd_iload_n d_L_law_132 rfl
theorem g_L_law_133 : jSnd 0 133 (o_push 134 (3)) := snd_iconst (n := 3) (z := 3) d_L_law_133 (by decide) (by unfold jrg; omega)
theorem g_L_law_134 : jSnd 0 134 (o_bin 135 f_add) := snd_iadd d_L_law_134
theorem g_L_law_135 : jSnd 0 135 (o_sald 136) := snd_sald d_L_law_135
theorem g_L_law_136 : jSnd 0 136 (o_call 139 2 4 4 13 false) := snd_callV (ci := 3) (n := 3) rfl d_L_law_136 (by decide) (by decide) (by decide) wc_2 wd_10 wd_11 wd_12 wd_2 (by decide +kernel) (by decide) (by decide)
theorem g_L_law_139 : jSnd 0 139 (o_aload 140 2) := snd_aload_n d_L_law_139 rfl
theorem g_L_law_140 : jSnd 0 140 (o_aload 141 0) := snd_aload_n d_L_law_140 rfl
theorem g_L_law_141 : jSnd 0 141 (o_iload 142 3) := snd_iload_n d_L_law_141 rfl
theorem g_L_law_142 : jSnd 0 142 (o_push 143 (1)) := snd_iconst (n := 1) (z := 1) d_L_law_142 (by decide) (by unfold jrg; omega)
theorem g_L_law_143 : jSnd 0 143 (o_bin 144 f_add) := snd_iadd d_L_law_143
theorem g_L_law_144 : jSnd 0 144 (o_sald 145) := snd_sald d_L_law_144
theorem g_L_law_145 : jSnd 0 145 (o_aload 146 0) := snd_aload_n d_L_law_145 rfl
theorem g_L_law_146 : jSnd 0 146 (o_iload 147 3) := snd_iload_n d_L_law_146 rfl
theorem g_L_law_147 : jSnd 0 147 (o_push 148 (2)) := snd_iconst (n := 2) (z := 2) d_L_law_147 (by decide) (by unfold jrg; omega)
theorem g_L_law_148 : jSnd 0 148 (o_bin 149 f_add) := snd_iadd d_L_law_148
theorem g_L_law_149 : jSnd 0 149 (o_sald 150) := snd_sald d_L_law_149
theorem g_L_law_150 : jSnd 0 150 (o_aload 151 0) := snd_aload_n d_L_law_150 rfl
theorem g_L_law_151 : jSnd 0 151 (o_iload 152 3) := snd_iload_n d_L_law_151 rfl
theorem g_L_law_152 : jSnd 0 152 (o_push 153 (3)) := snd_iconst (n := 3) (z := 3) d_L_law_152 (by decide) (by unfold jrg; omega)
theorem g_L_law_153 : jSnd 0 153 (o_bin 154 f_add) := snd_iadd d_L_law_153
theorem g_L_law_154 : jSnd 0 154 (o_sald 155) := snd_sald d_L_law_154
theorem g_L_law_155 : jSnd 0 155 (o_call 158 47 4 4 14 false) := snd_callV (ci := 4) (n := 3) rfl d_L_law_155 (by decide) (by decide) (by decide) wc_47 wd_13 wd_14 wd_15 wd_7 (by decide +kernel) (by decide) (by decide)
theorem g_L_law_158 : jSnd 0 158 (o_ic_eq 161 814) := snd_ic_eq d_L_law_158 (by decide)
theorem g_L_law_161 : jSnd 0 161 (o_push 162 (0)) := snd_iconst (n := 0) (z := 0) d_L_law_161 (by decide) (by unfold jrg; omega)
theorem g_L_law_162 : jSnd 0 162 (o_zret) := snd_zret d_L_law_162 rfl
theorem g_L_law_163 : jSnd 0 163 (o_aload 164 1) := snd_aload_n d_L_law_163 rfl
theorem g_L_law_164 : jSnd 0 164 (o_aload 165 0) := snd_aload_n d_L_law_164 rfl
theorem g_L_law_165 : jSnd 0 165 (o_iload 166 3) := snd_iload_n d_L_law_165 rfl
theorem g_L_law_166 : jSnd 0 166 (o_push 167 (1)) := snd_iconst (n := 1) (z := 1) d_L_law_166 (by decide) (by unfold jrg; omega)
theorem g_L_law_167 : jSnd 0 167 (o_bin 168 f_add) := snd_iadd d_L_law_167
theorem g_L_law_168 : jSnd 0 168 (o_sald 169) := snd_sald d_L_law_168
theorem g_L_law_169 : jSnd 0 169 (o_aload 170 0) := snd_aload_n d_L_law_169 rfl
theorem g_L_law_170 : jSnd 0 170 (o_iload 171 3) := snd_iload_n d_L_law_170 rfl
theorem g_L_law_171 : jSnd 0 171 (o_push 172 (2)) := snd_iconst (n := 2) (z := 2) d_L_law_171 (by decide) (by unfold jrg; omega)
theorem g_L_law_172 : jSnd 0 172 (o_bin 173 f_add) := snd_iadd d_L_law_172
theorem g_L_law_173 : jSnd 0 173 (o_sald 174) := snd_sald d_L_law_173
theorem g_L_law_174 : jSnd 0 174 (o_call 177 3 3 3 13 false) := snd_callV (ci := 3) (n := 2) rfl d_L_law_174 (by decide) (by decide) (by decide) wc_3 wd_16 wd_17 wd_18 wd_2 (by decide +kernel) (by decide) (by decide)
theorem g_L_law_177 : jSnd 0 177 (o_aload 178 2) := snd_aload_n d_L_law_177 rfl
theorem g_L_law_178 : jSnd 0 178 (o_aload 179 0) := snd_aload_n d_L_law_178 rfl
theorem g_L_law_179 : jSnd 0 179 (o_iload 180 3) := snd_iload_n d_L_law_179 rfl
theorem g_L_law_180 : jSnd 0 180 (o_push 181 (1)) := snd_iconst (n := 1) (z := 1) d_L_law_180 (by decide) (by unfold jrg; omega)
theorem g_L_law_181 : jSnd 0 181 (o_bin 182 f_add) := snd_iadd d_L_law_181
theorem g_L_law_182 : jSnd 0 182 (o_sald 183) := snd_sald d_L_law_182
theorem g_L_law_183 : jSnd 0 183 (o_aload 184 0) := snd_aload_n d_L_law_183 rfl
theorem g_L_law_184 : jSnd 0 184 (o_iload 185 3) := snd_iload_n d_L_law_184 rfl
theorem g_L_law_185 : jSnd 0 185 (o_push 186 (2)) := snd_iconst (n := 2) (z := 2) d_L_law_185 (by decide) (by unfold jrg; omega)
theorem g_L_law_186 : jSnd 0 186 (o_bin 187 f_add) := snd_iadd d_L_law_186
theorem g_L_law_187 : jSnd 0 187 (o_sald 188) := snd_sald d_L_law_187
theorem g_L_law_188 : jSnd 0 188 (o_call 191 48 3 3 14 false) := snd_callV (ci := 4) (n := 2) rfl d_L_law_188 (by decide) (by decide) (by decide) wc_48 wd_19 wd_20 wd_21 wd_7 (by decide +kernel) (by decide) (by decide)
theorem g_L_law_191 : jSnd 0 191 (o_ic_eq 194 814) := snd_ic_eq d_L_law_191 (by decide)
theorem g_L_law_194 : jSnd 0 194 (o_push 195 (0)) := snd_iconst (n := 0) (z := 0) d_L_law_194 (by decide) (by unfold jrg; omega)
theorem g_L_law_195 : jSnd 0 195 (o_zret) := snd_zret d_L_law_195 rfl
theorem g_L_law_196 : jSnd 0 196 (o_aload 197 1) := snd_aload_n d_L_law_196 rfl
theorem g_L_law_197 : jSnd 0 197 (o_aload 198 0) := snd_aload_n d_L_law_197 rfl
theorem g_L_law_198 : jSnd 0 198 (o_iload 199 3) := snd_iload_n d_L_law_198 rfl
theorem g_L_law_199 : jSnd 0 199 (o_push 200 (1)) := snd_iconst (n := 1) (z := 1) d_L_law_199 (by decide) (by unfold jrg; omega)
theorem g_L_law_200 : jSnd 0 200 (o_bin 201 f_add) := snd_iadd d_L_law_200
theorem g_L_law_201 : jSnd 0 201 (o_sald 202) := snd_sald d_L_law_201
theorem g_L_law_202 : jSnd 0 202 (o_aload 203 0) := snd_aload_n d_L_law_202 rfl
theorem g_L_law_203 : jSnd 0 203 (o_iload 204 3) := snd_iload_n d_L_law_203 rfl
theorem g_L_law_204 : jSnd 0 204 (o_push 205 (2)) := snd_iconst (n := 2) (z := 2) d_L_law_204 (by decide) (by unfold jrg; omega)
theorem g_L_law_205 : jSnd 0 205 (o_bin 206 f_add) := snd_iadd d_L_law_205
theorem g_L_law_206 : jSnd 0 206 (o_sald 207) := snd_sald d_L_law_206
theorem g_L_law_207 : jSnd 0 207 (o_aload 208 0) := snd_aload_n d_L_law_207 rfl
theorem g_L_law_208 : jSnd 0 208 (o_iload 209 3) := snd_iload_n d_L_law_208 rfl
theorem g_L_law_209 : jSnd 0 209 (o_push 210 (3)) := snd_iconst (n := 3) (z := 3) d_L_law_209 (by decide) (by unfold jrg; omega)
theorem g_L_law_210 : jSnd 0 210 (o_bin 211 f_add) := snd_iadd d_L_law_210
theorem g_L_law_211 : jSnd 0 211 (o_sald 212) := snd_sald d_L_law_211
theorem g_L_law_212 : jSnd 0 212 (o_aload 213 0) := snd_aload_n d_L_law_212 rfl
theorem g_L_law_213 : jSnd 0 213 (o_iload 214 3) := snd_iload_n d_L_law_213 rfl
theorem g_L_law_214 : jSnd 0 214 (o_push 215 (4)) := snd_iconst (n := 4) (z := 4) d_L_law_214 (by decide) (by unfold jrg; omega)
theorem g_L_law_215 : jSnd 0 215 (o_bin 216 f_add) := snd_iadd d_L_law_215
theorem g_L_law_216 : jSnd 0 216 (o_sald 217) := snd_sald d_L_law_216
theorem g_L_law_217 : jSnd 0 217 (o_aload 218 0) := snd_aload_n d_L_law_217 rfl
theorem g_L_law_218 : jSnd 0 218 (o_iload 219 3) := snd_iload_n d_L_law_218 rfl
theorem g_L_law_219 : jSnd 0 219 (o_push 220 (5)) := snd_iconst (n := 5) (z := 5) d_L_law_219 (by decide) (by unfold jrg; omega)
theorem g_L_law_220 : jSnd 0 220 (o_bin 221 f_add) := snd_iadd d_L_law_220
theorem g_L_law_221 : jSnd 0 221 (o_sald 222) := snd_sald d_L_law_221
theorem g_L_law_222 : jSnd 0 222 (o_call 225 4 6 7 13 false) := snd_callV (ci := 3) (n := 5) rfl d_L_law_222 (by decide) (by decide) (by decide) wc_4 wd_22 wd_23 wd_24 wd_2 (by decide +kernel) (by decide) (by decide)
theorem g_L_law_225 : jSnd 0 225 (o_aload 226 2) := snd_aload_n d_L_law_225 rfl
theorem g_L_law_226 : jSnd 0 226 (o_aload 227 0) := snd_aload_n d_L_law_226 rfl
theorem g_L_law_227 : jSnd 0 227 (o_iload 228 3) := snd_iload_n d_L_law_227 rfl
theorem g_L_law_228 : jSnd 0 228 (o_push 229 (1)) := snd_iconst (n := 1) (z := 1) d_L_law_228 (by decide) (by unfold jrg; omega)
theorem g_L_law_229 : jSnd 0 229 (o_bin 230 f_add) := snd_iadd d_L_law_229
theorem g_L_law_230 : jSnd 0 230 (o_sald 231) := snd_sald d_L_law_230
theorem g_L_law_231 : jSnd 0 231 (o_aload 232 0) := snd_aload_n d_L_law_231 rfl
theorem g_L_law_232 : jSnd 0 232 (o_iload 233 3) := snd_iload_n d_L_law_232 rfl
theorem g_L_law_233 : jSnd 0 233 (o_push 234 (2)) := snd_iconst (n := 2) (z := 2) d_L_law_233 (by decide) (by unfold jrg; omega)
theorem g_L_law_234 : jSnd 0 234 (o_bin 235 f_add) := snd_iadd d_L_law_234
theorem g_L_law_235 : jSnd 0 235 (o_sald 236) := snd_sald d_L_law_235
theorem g_L_law_236 : jSnd 0 236 (o_aload 237 0) := snd_aload_n d_L_law_236 rfl
theorem g_L_law_237 : jSnd 0 237 (o_iload 238 3) := snd_iload_n d_L_law_237 rfl
theorem g_L_law_238 : jSnd 0 238 (o_push 239 (3)) := snd_iconst (n := 3) (z := 3) d_L_law_238 (by decide) (by unfold jrg; omega)
theorem g_L_law_239 : jSnd 0 239 (o_bin 240 f_add) := snd_iadd d_L_law_239
theorem g_L_law_240 : jSnd 0 240 (o_sald 241) := snd_sald d_L_law_240
theorem g_L_law_241 : jSnd 0 241 (o_aload 242 0) := snd_aload_n d_L_law_241 rfl
theorem g_L_law_242 : jSnd 0 242 (o_iload 243 3) := snd_iload_n d_L_law_242 rfl
theorem g_L_law_243 : jSnd 0 243 (o_push 244 (4)) := snd_iconst (n := 4) (z := 4) d_L_law_243 (by decide) (by unfold jrg; omega)
theorem g_L_law_244 : jSnd 0 244 (o_bin 245 f_add) := snd_iadd d_L_law_244
theorem g_L_law_245 : jSnd 0 245 (o_sald 246) := snd_sald d_L_law_245
theorem g_L_law_246 : jSnd 0 246 (o_aload 247 0) := snd_aload_n d_L_law_246 rfl
theorem g_L_law_247 : jSnd 0 247 (o_iload 248 3) := snd_iload_n d_L_law_247 rfl
theorem g_L_law_248 : jSnd 0 248 (o_push 249 (5)) := snd_iconst (n := 5) (z := 5) d_L_law_248 (by decide) (by unfold jrg; omega)
theorem g_L_law_249 : jSnd 0 249 (o_bin 250 f_add) := snd_iadd d_L_law_249
theorem g_L_law_250 : jSnd 0 250 (o_sald 251) := snd_sald d_L_law_250
theorem g_L_law_251 : jSnd 0 251 (o_call 254 49 6 7 14 false) := snd_callV (ci := 4) (n := 5) rfl d_L_law_251 (by decide) (by decide) (by decide) wc_49 wd_25 wd_26 wd_27 wd_7 (by decide +kernel) (by decide) (by decide)
theorem g_L_law_254 : jSnd 0 254 (o_ic_eq 257 814) := snd_ic_eq d_L_law_254 (by decide)
theorem g_L_law_257 : jSnd 0 257 (o_push 258 (0)) := snd_iconst (n := 0) (z := 0) d_L_law_257 (by decide) (by unfold jrg; omega)
theorem g_L_law_258 : jSnd 0 258 (o_zret) := snd_zret d_L_law_258 rfl
theorem g_L_law_259 : jSnd 0 259 (o_aload 260 1) := snd_aload_n d_L_law_259 rfl
theorem g_L_law_260 : jSnd 0 260 (o_aload 261 0) := snd_aload_n d_L_law_260 rfl
theorem g_L_law_261 : jSnd 0 261 (o_iload 262 3) := snd_iload_n d_L_law_261 rfl
theorem g_L_law_262 : jSnd 0 262 (o_push 263 (1)) := snd_iconst (n := 1) (z := 1) d_L_law_262 (by decide) (by unfold jrg; omega)
theorem g_L_law_263 : jSnd 0 263 (o_bin 264 f_add) := snd_iadd d_L_law_263
theorem g_L_law_264 : jSnd 0 264 (o_sald 265) := snd_sald d_L_law_264
theorem g_L_law_265 : jSnd 0 265 (o_aload 266 0) := snd_aload_n d_L_law_265 rfl
theorem g_L_law_266 : jSnd 0 266 (o_iload 267 3) := snd_iload_n d_L_law_266 rfl
theorem g_L_law_267 : jSnd 0 267 (o_push 268 (2)) := snd_iconst (n := 2) (z := 2) d_L_law_267 (by decide) (by unfold jrg; omega)
theorem g_L_law_268 : jSnd 0 268 (o_bin 269 f_add) := snd_iadd d_L_law_268
theorem g_L_law_269 : jSnd 0 269 (o_sald 270) := snd_sald d_L_law_269
theorem g_L_law_270 : jSnd 0 270 (o_aload 271 0) := snd_aload_n d_L_law_270 rfl
theorem g_L_law_271 : jSnd 0 271 (o_iload 272 3) := snd_iload_n d_L_law_271 rfl
theorem g_L_law_272 : jSnd 0 272 (o_push 273 (3)) := snd_iconst (n := 3) (z := 3) d_L_law_272 (by decide) (by unfold jrg; omega)
theorem g_L_law_273 : jSnd 0 273 (o_bin 274 f_add) := snd_iadd d_L_law_273
theorem g_L_law_274 : jSnd 0 274 (o_sald 275) := snd_sald d_L_law_274
theorem g_L_law_275 : jSnd 0 275 (o_call 278 5 4 4 13 false) := snd_callV (ci := 3) (n := 3) rfl d_L_law_275 (by decide) (by decide) (by decide) wc_5 wd_28 wd_29 wd_30 wd_2 (by decide +kernel) (by decide) (by decide)
theorem g_L_law_278 : jSnd 0 278 (o_aload 279 2) := snd_aload_n d_L_law_278 rfl
theorem g_L_law_279 : jSnd 0 279 (o_aload 280 0) := snd_aload_n d_L_law_279 rfl
theorem g_L_law_280 : jSnd 0 280 (o_iload 281 3) := snd_iload_n d_L_law_280 rfl
theorem g_L_law_281 : jSnd 0 281 (o_push 282 (1)) := snd_iconst (n := 1) (z := 1) d_L_law_281 (by decide) (by unfold jrg; omega)
theorem g_L_law_282 : jSnd 0 282 (o_bin 283 f_add) := snd_iadd d_L_law_282
theorem g_L_law_283 : jSnd 0 283 (o_sald 284) := snd_sald d_L_law_283
theorem g_L_law_284 : jSnd 0 284 (o_aload 285 0) := snd_aload_n d_L_law_284 rfl
theorem g_L_law_285 : jSnd 0 285 (o_iload 286 3) := snd_iload_n d_L_law_285 rfl
theorem g_L_law_286 : jSnd 0 286 (o_push 287 (2)) := snd_iconst (n := 2) (z := 2) d_L_law_286 (by decide) (by unfold jrg; omega)
theorem g_L_law_287 : jSnd 0 287 (o_bin 288 f_add) := snd_iadd d_L_law_287
theorem g_L_law_288 : jSnd 0 288 (o_sald 289) := snd_sald d_L_law_288
theorem g_L_law_289 : jSnd 0 289 (o_aload 290 0) := snd_aload_n d_L_law_289 rfl
theorem g_L_law_290 : jSnd 0 290 (o_iload 291 3) := snd_iload_n d_L_law_290 rfl
theorem g_L_law_291 : jSnd 0 291 (o_push 292 (3)) := snd_iconst (n := 3) (z := 3) d_L_law_291 (by decide) (by unfold jrg; omega)
theorem g_L_law_292 : jSnd 0 292 (o_bin 293 f_add) := snd_iadd d_L_law_292
theorem g_L_law_293 : jSnd 0 293 (o_sald 294) := snd_sald d_L_law_293
theorem g_L_law_294 : jSnd 0 294 (o_call 297 50 4 4 14 false) := snd_callV (ci := 4) (n := 3) rfl d_L_law_294 (by decide) (by decide) (by decide) wc_50 wd_31 wd_32 wd_33 wd_7 (by decide +kernel) (by decide) (by decide)
theorem g_L_law_297 : jSnd 0 297 (o_ic_eq 300 814) := snd_ic_eq d_L_law_297 (by decide)
theorem g_L_law_300 : jSnd 0 300 (o_push 301 (0)) := snd_iconst (n := 0) (z := 0) d_L_law_300 (by decide) (by unfold jrg; omega)
theorem g_L_law_301 : jSnd 0 301 (o_zret) := snd_zret d_L_law_301 rfl
theorem g_L_law_302 : jSnd 0 302 (o_aload 303 1) := snd_aload_n d_L_law_302 rfl
theorem g_L_law_303 : jSnd 0 303 (o_aload 304 0) := snd_aload_n d_L_law_303 rfl
theorem g_L_law_304 : jSnd 0 304 (o_iload 305 3) := snd_iload_n d_L_law_304 rfl
theorem g_L_law_305 : jSnd 0 305 (o_push 306 (1)) := snd_iconst (n := 1) (z := 1) d_L_law_305 (by decide) (by unfold jrg; omega)
theorem g_L_law_306 : jSnd 0 306 (o_bin 307 f_add) := snd_iadd d_L_law_306
theorem g_L_law_307 : jSnd 0 307 (o_sald 308) := snd_sald d_L_law_307
theorem g_L_law_308 : jSnd 0 308 (o_aload 309 0) := snd_aload_n d_L_law_308 rfl
theorem g_L_law_309 : jSnd 0 309 (o_iload 310 3) := snd_iload_n d_L_law_309 rfl
theorem g_L_law_310 : jSnd 0 310 (o_push 311 (2)) := snd_iconst (n := 2) (z := 2) d_L_law_310 (by decide) (by unfold jrg; omega)
theorem g_L_law_311 : jSnd 0 311 (o_bin 312 f_add) := snd_iadd d_L_law_311
theorem g_L_law_312 : jSnd 0 312 (o_sald 313) := snd_sald d_L_law_312
theorem g_L_law_313 : jSnd 0 313 (o_aload 314 0) := snd_aload_n d_L_law_313 rfl
theorem g_L_law_314 : jSnd 0 314 (o_iload 315 3) := snd_iload_n d_L_law_314 rfl
theorem g_L_law_315 : jSnd 0 315 (o_push 316 (3)) := snd_iconst (n := 3) (z := 3) d_L_law_315 (by decide) (by unfold jrg; omega)
theorem g_L_law_316 : jSnd 0 316 (o_bin 317 f_add) := snd_iadd d_L_law_316
theorem g_L_law_317 : jSnd 0 317 (o_sald 318) := snd_sald d_L_law_317
theorem g_L_law_318 : jSnd 0 318 (o_call 321 6 4 5 13 false) := snd_callV (ci := 3) (n := 3) rfl d_L_law_318 (by decide) (by decide) (by decide) wc_6 wd_34 wd_35 wd_36 wd_2 (by decide +kernel) (by decide) (by decide)
theorem g_L_law_321 : jSnd 0 321 (o_aload 322 2) := snd_aload_n d_L_law_321 rfl
theorem g_L_law_322 : jSnd 0 322 (o_aload 323 0) := snd_aload_n d_L_law_322 rfl
theorem g_L_law_323 : jSnd 0 323 (o_iload 324 3) := snd_iload_n d_L_law_323 rfl
theorem g_L_law_324 : jSnd 0 324 (o_push 325 (1)) := snd_iconst (n := 1) (z := 1) d_L_law_324 (by decide) (by unfold jrg; omega)
theorem g_L_law_325 : jSnd 0 325 (o_bin 326 f_add) := snd_iadd d_L_law_325
theorem g_L_law_326 : jSnd 0 326 (o_sald 327) := snd_sald d_L_law_326
theorem g_L_law_327 : jSnd 0 327 (o_aload 328 0) := snd_aload_n d_L_law_327 rfl
theorem g_L_law_328 : jSnd 0 328 (o_iload 329 3) := snd_iload_n d_L_law_328 rfl
theorem g_L_law_329 : jSnd 0 329 (o_push 330 (2)) := snd_iconst (n := 2) (z := 2) d_L_law_329 (by decide) (by unfold jrg; omega)
theorem g_L_law_330 : jSnd 0 330 (o_bin 331 f_add) := snd_iadd d_L_law_330
theorem g_L_law_331 : jSnd 0 331 (o_sald 332) := snd_sald d_L_law_331
theorem g_L_law_332 : jSnd 0 332 (o_aload 333 0) := snd_aload_n d_L_law_332 rfl
theorem g_L_law_333 : jSnd 0 333 (o_iload 334 3) := snd_iload_n d_L_law_333 rfl
theorem g_L_law_334 : jSnd 0 334 (o_push 335 (3)) := snd_iconst (n := 3) (z := 3) d_L_law_334 (by decide) (by unfold jrg; omega)
theorem g_L_law_335 : jSnd 0 335 (o_bin 336 f_add) := snd_iadd d_L_law_335
theorem g_L_law_336 : jSnd 0 336 (o_sald 337) := snd_sald d_L_law_336
theorem g_L_law_337 : jSnd 0 337 (o_call 340 52 4 5 14 false) := snd_callV (ci := 4) (n := 3) rfl d_L_law_337 (by decide) (by decide) (by decide) wc_52 wd_37 wd_38 wd_39 wd_7 (by decide +kernel) (by decide) (by decide)
theorem g_L_law_340 : jSnd 0 340 (o_ic_eq 343 814) := snd_ic_eq d_L_law_340 (by decide)
theorem g_L_law_343 : jSnd 0 343 (o_push 344 (0)) := snd_iconst (n := 0) (z := 0) d_L_law_343 (by decide) (by unfold jrg; omega)
theorem g_L_law_344 : jSnd 0 344 (o_zret) := snd_zret d_L_law_344 rfl
theorem g_L_law_345 : jSnd 0 345 (o_aload 346 1) := snd_aload_n d_L_law_345 rfl
theorem g_L_law_346 : jSnd 0 346 (o_aload 347 0) := snd_aload_n d_L_law_346 rfl
theorem g_L_law_347 : jSnd 0 347 (o_iload 348 3) := snd_iload_n d_L_law_347 rfl
theorem g_L_law_348 : jSnd 0 348 (o_push 349 (1)) := snd_iconst (n := 1) (z := 1) d_L_law_348 (by decide) (by unfold jrg; omega)
theorem g_L_law_349 : jSnd 0 349 (o_bin 350 f_add) := snd_iadd d_L_law_349
theorem g_L_law_350 : jSnd 0 350 (o_sald 351) := snd_sald d_L_law_350
theorem g_L_law_351 : jSnd 0 351 (o_aload 352 0) := snd_aload_n d_L_law_351 rfl
theorem g_L_law_352 : jSnd 0 352 (o_iload 353 3) := snd_iload_n d_L_law_352 rfl
theorem g_L_law_353 : jSnd 0 353 (o_push 354 (2)) := snd_iconst (n := 2) (z := 2) d_L_law_353 (by decide) (by unfold jrg; omega)
theorem g_L_law_354 : jSnd 0 354 (o_bin 355 f_add) := snd_iadd d_L_law_354
theorem g_L_law_355 : jSnd 0 355 (o_sald 356) := snd_sald d_L_law_355
theorem g_L_law_356 : jSnd 0 356 (o_call 359 7 3 3 13 false) := snd_callV (ci := 3) (n := 2) rfl d_L_law_356 (by decide) (by decide) (by decide) wc_7 wd_40 wd_41 wd_42 wd_2 (by decide +kernel) (by decide) (by decide)
theorem g_L_law_359 : jSnd 0 359 (o_aload 360 2) := snd_aload_n d_L_law_359 rfl
theorem g_L_law_360 : jSnd 0 360 (o_aload 361 0) := snd_aload_n d_L_law_360 rfl
theorem g_L_law_361 : jSnd 0 361 (o_iload 362 3) := snd_iload_n d_L_law_361 rfl
theorem g_L_law_362 : jSnd 0 362 (o_push 363 (1)) := snd_iconst (n := 1) (z := 1) d_L_law_362 (by decide) (by unfold jrg; omega)
theorem g_L_law_363 : jSnd 0 363 (o_bin 364 f_add) := snd_iadd d_L_law_363
theorem g_L_law_364 : jSnd 0 364 (o_sald 365) := snd_sald d_L_law_364
theorem g_L_law_365 : jSnd 0 365 (o_aload 366 0) := snd_aload_n d_L_law_365 rfl
theorem g_L_law_366 : jSnd 0 366 (o_iload 367 3) := snd_iload_n d_L_law_366 rfl
theorem g_L_law_367 : jSnd 0 367 (o_push 368 (2)) := snd_iconst (n := 2) (z := 2) d_L_law_367 (by decide) (by unfold jrg; omega)
theorem g_L_law_368 : jSnd 0 368 (o_bin 369 f_add) := snd_iadd d_L_law_368
theorem g_L_law_369 : jSnd 0 369 (o_sald 370) := snd_sald d_L_law_369
theorem g_L_law_370 : jSnd 0 370 (o_call 373 53 3 3 14 false) := snd_callV (ci := 4) (n := 2) rfl d_L_law_370 (by decide) (by decide) (by decide) wc_53 wd_43 wd_44 wd_45 wd_7 (by decide +kernel) (by decide) (by decide)
theorem g_L_law_373 : jSnd 0 373 (o_ic_eq 376 814) := snd_ic_eq d_L_law_373 (by decide)
theorem g_L_law_376 : jSnd 0 376 (o_push 377 (0)) := snd_iconst (n := 0) (z := 0) d_L_law_376 (by decide) (by unfold jrg; omega)
theorem g_L_law_377 : jSnd 0 377 (o_zret) := snd_zret d_L_law_377 rfl
theorem g_L_law_378 : jSnd 0 378 (o_aload 379 1) := snd_aload_n d_L_law_378 rfl
theorem g_L_law_379 : jSnd 0 379 (o_aload 380 0) := snd_aload_n d_L_law_379 rfl
theorem g_L_law_380 : jSnd 0 380 (o_iload 381 3) := snd_iload_n d_L_law_380 rfl
theorem g_L_law_381 : jSnd 0 381 (o_push 382 (1)) := snd_iconst (n := 1) (z := 1) d_L_law_381 (by decide) (by unfold jrg; omega)
theorem g_L_law_382 : jSnd 0 382 (o_bin 383 f_add) := snd_iadd d_L_law_382
theorem g_L_law_383 : jSnd 0 383 (o_sald 384) := snd_sald d_L_law_383
theorem g_L_law_384 : jSnd 0 384 (o_aload 385 0) := snd_aload_n d_L_law_384 rfl
theorem g_L_law_385 : jSnd 0 385 (o_iload 386 3) := snd_iload_n d_L_law_385 rfl
theorem g_L_law_386 : jSnd 0 386 (o_push 387 (2)) := snd_iconst (n := 2) (z := 2) d_L_law_386 (by decide) (by unfold jrg; omega)
theorem g_L_law_387 : jSnd 0 387 (o_bin 388 f_add) := snd_iadd d_L_law_387
theorem g_L_law_388 : jSnd 0 388 (o_sald 389) := snd_sald d_L_law_388
theorem g_L_law_389 : jSnd 0 389 (o_call 392 8 3 4 13 false) := snd_callV (ci := 3) (n := 2) rfl d_L_law_389 (by decide) (by decide) (by decide) wc_8 wd_46 wd_47 wd_48 wd_2 (by decide +kernel) (by decide) (by decide)
theorem g_L_law_392 : jSnd 0 392 (o_aload 393 2) := snd_aload_n d_L_law_392 rfl
theorem g_L_law_393 : jSnd 0 393 (o_aload 394 0) := snd_aload_n d_L_law_393 rfl
theorem g_L_law_394 : jSnd 0 394 (o_iload 395 3) := snd_iload_n d_L_law_394 rfl
theorem g_L_law_395 : jSnd 0 395 (o_push 396 (1)) := snd_iconst (n := 1) (z := 1) d_L_law_395 (by decide) (by unfold jrg; omega)
theorem g_L_law_396 : jSnd 0 396 (o_bin 397 f_add) := snd_iadd d_L_law_396
theorem g_L_law_397 : jSnd 0 397 (o_sald 398) := snd_sald d_L_law_397
theorem g_L_law_398 : jSnd 0 398 (o_aload 399 0) := snd_aload_n d_L_law_398 rfl
theorem g_L_law_399 : jSnd 0 399 (o_iload 400 3) := snd_iload_n d_L_law_399 rfl
theorem g_L_law_400 : jSnd 0 400 (o_push 401 (2)) := snd_iconst (n := 2) (z := 2) d_L_law_400 (by decide) (by unfold jrg; omega)
theorem g_L_law_401 : jSnd 0 401 (o_bin 402 f_add) := snd_iadd d_L_law_401
theorem g_L_law_402 : jSnd 0 402 (o_sald 403) := snd_sald d_L_law_402
theorem g_L_law_403 : jSnd 0 403 (o_call 406 55 3 3 14 false) := snd_callV (ci := 4) (n := 2) rfl d_L_law_403 (by decide) (by decide) (by decide) wc_55 wd_49 wd_50 wd_51 wd_7 (by decide +kernel) (by decide) (by decide)
theorem g_L_law_406 : jSnd 0 406 (o_ic_eq 409 814) := snd_ic_eq d_L_law_406 (by decide)
theorem g_L_law_409 : jSnd 0 409 (o_push 410 (0)) := snd_iconst (n := 0) (z := 0) d_L_law_409 (by decide) (by unfold jrg; omega)
theorem g_L_law_410 : jSnd 0 410 (o_zret) := snd_zret d_L_law_410 rfl
theorem g_L_law_411 : jSnd 0 411 (o_aload 412 1) := snd_aload_n d_L_law_411 rfl
theorem g_L_law_412 : jSnd 0 412 (o_aload 413 0) := snd_aload_n d_L_law_412 rfl
theorem g_L_law_413 : jSnd 0 413 (o_iload 414 3) := snd_iload_n d_L_law_413 rfl
theorem g_L_law_414 : jSnd 0 414 (o_push 415 (1)) := snd_iconst (n := 1) (z := 1) d_L_law_414 (by decide) (by unfold jrg; omega)
theorem g_L_law_415 : jSnd 0 415 (o_bin 416 f_add) := snd_iadd d_L_law_415
theorem g_L_law_416 : jSnd 0 416 (o_sald 417) := snd_sald d_L_law_416
theorem g_L_law_417 : jSnd 0 417 (o_aload 418 0) := snd_aload_n d_L_law_417 rfl
theorem g_L_law_418 : jSnd 0 418 (o_iload 419 3) := snd_iload_n d_L_law_418 rfl
theorem g_L_law_419 : jSnd 0 419 (o_push 420 (2)) := snd_iconst (n := 2) (z := 2) d_L_law_419 (by decide) (by unfold jrg; omega)
theorem g_L_law_420 : jSnd 0 420 (o_bin 421 f_add) := snd_iadd d_L_law_420
theorem g_L_law_421 : jSnd 0 421 (o_sald 422) := snd_sald d_L_law_421
theorem g_L_law_422 : jSnd 0 422 (o_call 425 9 3 7 13 false) := snd_callV (ci := 3) (n := 2) rfl d_L_law_422 (by decide) (by decide) (by decide) wc_9 wd_52 wd_53 wd_54 wd_2 (by decide +kernel) (by decide) (by decide)
theorem g_L_law_425 : jSnd 0 425 (o_aload 426 2) := snd_aload_n d_L_law_425 rfl
theorem g_L_law_426 : jSnd 0 426 (o_aload 427 0) := snd_aload_n d_L_law_426 rfl
theorem g_L_law_427 : jSnd 0 427 (o_iload 428 3) := snd_iload_n d_L_law_427 rfl
theorem g_L_law_428 : jSnd 0 428 (o_push 429 (1)) := snd_iconst (n := 1) (z := 1) d_L_law_428 (by decide) (by unfold jrg; omega)
theorem g_L_law_429 : jSnd 0 429 (o_bin 430 f_add) := snd_iadd d_L_law_429
theorem g_L_law_430 : jSnd 0 430 (o_sald 431) := snd_sald d_L_law_430
theorem g_L_law_431 : jSnd 0 431 (o_aload 432 0) := snd_aload_n d_L_law_431 rfl
theorem g_L_law_432 : jSnd 0 432 (o_iload 433 3) := snd_iload_n d_L_law_432 rfl
theorem g_L_law_433 : jSnd 0 433 (o_push 434 (2)) := snd_iconst (n := 2) (z := 2) d_L_law_433 (by decide) (by unfold jrg; omega)
theorem g_L_law_434 : jSnd 0 434 (o_bin 435 f_add) := snd_iadd d_L_law_434
theorem g_L_law_435 : jSnd 0 435 (o_sald 436) := snd_sald d_L_law_435
theorem g_L_law_436 : jSnd 0 436 (o_call 439 56 3 5 14 false) := snd_callV (ci := 4) (n := 2) rfl d_L_law_436 (by decide) (by decide) (by decide) wc_56 wd_55 wd_56 wd_57 wd_7 (by decide +kernel) (by decide) (by decide)
theorem g_L_law_439 : jSnd 0 439 (o_ic_eq 442 814) := snd_ic_eq d_L_law_439 (by decide)
theorem g_L_law_442 : jSnd 0 442 (o_push 443 (0)) := snd_iconst (n := 0) (z := 0) d_L_law_442 (by decide) (by unfold jrg; omega)
theorem g_L_law_443 : jSnd 0 443 (o_zret) := snd_zret d_L_law_443 rfl
theorem g_L_law_444 : jSnd 0 444 (o_aload 445 1) := snd_aload_n d_L_law_444 rfl
theorem g_L_law_445 : jSnd 0 445 (o_aload 446 0) := snd_aload_n d_L_law_445 rfl
theorem g_L_law_446 : jSnd 0 446 (o_iload 447 3) := snd_iload_n d_L_law_446 rfl
theorem g_L_law_447 : jSnd 0 447 (o_push 448 (1)) := snd_iconst (n := 1) (z := 1) d_L_law_447 (by decide) (by unfold jrg; omega)
theorem g_L_law_448 : jSnd 0 448 (o_bin 449 f_add) := snd_iadd d_L_law_448
theorem g_L_law_449 : jSnd 0 449 (o_sald 450) := snd_sald d_L_law_449
theorem g_L_law_450 : jSnd 0 450 (o_aload 451 0) := snd_aload_n d_L_law_450 rfl
theorem g_L_law_451 : jSnd 0 451 (o_iload 452 3) := snd_iload_n d_L_law_451 rfl
theorem g_L_law_452 : jSnd 0 452 (o_push 453 (2)) := snd_iconst (n := 2) (z := 2) d_L_law_452 (by decide) (by unfold jrg; omega)
theorem g_L_law_453 : jSnd 0 453 (o_bin 454 f_add) := snd_iadd d_L_law_453
theorem g_L_law_454 : jSnd 0 454 (o_sald 455) := snd_sald d_L_law_454
theorem g_L_law_455 : jSnd 0 455 (o_call 458 10 3 3 13 false) := snd_callV (ci := 3) (n := 2) rfl d_L_law_455 (by decide) (by decide) (by decide) wc_10 wd_58 wd_59 wd_60 wd_2 (by decide +kernel) (by decide) (by decide)
theorem g_L_law_458 : jSnd 0 458 (o_aload 459 2) := snd_aload_n d_L_law_458 rfl
theorem g_L_law_459 : jSnd 0 459 (o_aload 460 0) := snd_aload_n d_L_law_459 rfl
theorem g_L_law_460 : jSnd 0 460 (o_iload 461 3) := snd_iload_n d_L_law_460 rfl
theorem g_L_law_461 : jSnd 0 461 (o_push 462 (1)) := snd_iconst (n := 1) (z := 1) d_L_law_461 (by decide) (by unfold jrg; omega)
theorem g_L_law_462 : jSnd 0 462 (o_bin 463 f_add) := snd_iadd d_L_law_462
theorem g_L_law_463 : jSnd 0 463 (o_sald 464) := snd_sald d_L_law_463
theorem g_L_law_464 : jSnd 0 464 (o_aload 465 0) := snd_aload_n d_L_law_464 rfl
theorem g_L_law_465 : jSnd 0 465 (o_iload 466 3) := snd_iload_n d_L_law_465 rfl
theorem g_L_law_466 : jSnd 0 466 (o_push 467 (2)) := snd_iconst (n := 2) (z := 2) d_L_law_466 (by decide) (by unfold jrg; omega)
theorem g_L_law_467 : jSnd 0 467 (o_bin 468 f_add) := snd_iadd d_L_law_467
theorem g_L_law_468 : jSnd 0 468 (o_sald 469) := snd_sald d_L_law_468
theorem g_L_law_469 : jSnd 0 469 (o_call 472 58 3 3 14 false) := snd_callV (ci := 4) (n := 2) rfl d_L_law_469 (by decide) (by decide) (by decide) wc_58 wd_61 wd_62 wd_63 wd_7 (by decide +kernel) (by decide) (by decide)
theorem g_L_law_472 : jSnd 0 472 (o_ic_eq 475 814) := snd_ic_eq d_L_law_472 (by decide)
theorem g_L_law_475 : jSnd 0 475 (o_push 476 (0)) := snd_iconst (n := 0) (z := 0) d_L_law_475 (by decide) (by unfold jrg; omega)
theorem g_L_law_476 : jSnd 0 476 (o_zret) := snd_zret d_L_law_476 rfl
theorem g_L_law_477 : jSnd 0 477 (o_aload 478 1) := snd_aload_n d_L_law_477 rfl
theorem g_L_law_478 : jSnd 0 478 (o_aload 479 0) := snd_aload_n d_L_law_478 rfl
theorem g_L_law_479 : jSnd 0 479 (o_iload 480 3) := snd_iload_n d_L_law_479 rfl
theorem g_L_law_480 : jSnd 0 480 (o_push 481 (1)) := snd_iconst (n := 1) (z := 1) d_L_law_480 (by decide) (by unfold jrg; omega)
theorem g_L_law_481 : jSnd 0 481 (o_bin 482 f_add) := snd_iadd d_L_law_481
theorem g_L_law_482 : jSnd 0 482 (o_sald 483) := snd_sald d_L_law_482
theorem g_L_law_483 : jSnd 0 483 (o_aload 484 0) := snd_aload_n d_L_law_483 rfl
theorem g_L_law_484 : jSnd 0 484 (o_iload 485 3) := snd_iload_n d_L_law_484 rfl
theorem g_L_law_485 : jSnd 0 485 (o_push 486 (2)) := snd_iconst (n := 2) (z := 2) d_L_law_485 (by decide) (by unfold jrg; omega)
theorem g_L_law_486 : jSnd 0 486 (o_bin 487 f_add) := snd_iadd d_L_law_486
theorem g_L_law_487 : jSnd 0 487 (o_sald 488) := snd_sald d_L_law_487
theorem g_L_law_488 : jSnd 0 488 (o_call 491 11 3 3 13 false) := snd_callV (ci := 3) (n := 2) rfl d_L_law_488 (by decide) (by decide) (by decide) wc_11 wd_64 wd_65 wd_66 wd_2 (by decide +kernel) (by decide) (by decide)
theorem g_L_law_491 : jSnd 0 491 (o_aload 492 2) := snd_aload_n d_L_law_491 rfl
theorem g_L_law_492 : jSnd 0 492 (o_aload 493 0) := snd_aload_n d_L_law_492 rfl
theorem g_L_law_493 : jSnd 0 493 (o_iload 494 3) := snd_iload_n d_L_law_493 rfl
theorem g_L_law_494 : jSnd 0 494 (o_push 495 (1)) := snd_iconst (n := 1) (z := 1) d_L_law_494 (by decide) (by unfold jrg; omega)
theorem g_L_law_495 : jSnd 0 495 (o_bin 496 f_add) := snd_iadd d_L_law_495
theorem g_L_law_496 : jSnd 0 496 (o_sald 497) := snd_sald d_L_law_496
theorem g_L_law_497 : jSnd 0 497 (o_aload 498 0) := snd_aload_n d_L_law_497 rfl
theorem g_L_law_498 : jSnd 0 498 (o_iload 499 3) := snd_iload_n d_L_law_498 rfl
theorem g_L_law_499 : jSnd 0 499 (o_push 500 (2)) := snd_iconst (n := 2) (z := 2) d_L_law_499 (by decide) (by unfold jrg; omega)
theorem g_L_law_500 : jSnd 0 500 (o_bin 501 f_add) := snd_iadd d_L_law_500
theorem g_L_law_501 : jSnd 0 501 (o_sald 502) := snd_sald d_L_law_501
theorem g_L_law_502 : jSnd 0 502 (o_call 505 59 3 3 14 false) := snd_callV (ci := 4) (n := 2) rfl d_L_law_502 (by decide) (by decide) (by decide) wc_59 wd_67 wd_68 wd_69 wd_7 (by decide +kernel) (by decide) (by decide)
theorem g_L_law_505 : jSnd 0 505 (o_ic_eq 508 814) := snd_ic_eq d_L_law_505 (by decide)
theorem g_L_law_508 : jSnd 0 508 (o_push 509 (0)) := snd_iconst (n := 0) (z := 0) d_L_law_508 (by decide) (by unfold jrg; omega)
theorem g_L_law_509 : jSnd 0 509 (o_zret) := snd_zret d_L_law_509 rfl
theorem g_L_law_510 : jSnd 0 510 (o_aload 511 1) := snd_aload_n d_L_law_510 rfl
theorem g_L_law_511 : jSnd 0 511 (o_aload 512 0) := snd_aload_n d_L_law_511 rfl
theorem g_L_law_512 : jSnd 0 512 (o_iload 513 3) := snd_iload_n d_L_law_512 rfl
theorem g_L_law_513 : jSnd 0 513 (o_push 514 (1)) := snd_iconst (n := 1) (z := 1) d_L_law_513 (by decide) (by unfold jrg; omega)
theorem g_L_law_514 : jSnd 0 514 (o_bin 515 f_add) := snd_iadd d_L_law_514
theorem g_L_law_515 : jSnd 0 515 (o_sald 516) := snd_sald d_L_law_515
theorem g_L_law_516 : jSnd 0 516 (o_aload 517 0) := snd_aload_n d_L_law_516 rfl
theorem g_L_law_517 : jSnd 0 517 (o_iload 518 3) := snd_iload_n d_L_law_517 rfl
theorem g_L_law_518 : jSnd 0 518 (o_push 519 (2)) := snd_iconst (n := 2) (z := 2) d_L_law_518 (by decide) (by unfold jrg; omega)
theorem g_L_law_519 : jSnd 0 519 (o_bin 520 f_add) := snd_iadd d_L_law_519
theorem g_L_law_520 : jSnd 0 520 (o_sald 521) := snd_sald d_L_law_520
theorem g_L_law_521 : jSnd 0 521 (o_call 524 12 3 3 13 false) := snd_callV (ci := 3) (n := 2) rfl d_L_law_521 (by decide) (by decide) (by decide) wc_12 wd_70 wd_71 wd_72 wd_2 (by decide +kernel) (by decide) (by decide)
theorem g_L_law_524 : jSnd 0 524 (o_aload 525 2) := snd_aload_n d_L_law_524 rfl
theorem g_L_law_525 : jSnd 0 525 (o_aload 526 0) := snd_aload_n d_L_law_525 rfl
theorem g_L_law_526 : jSnd 0 526 (o_iload 527 3) := snd_iload_n d_L_law_526 rfl
theorem g_L_law_527 : jSnd 0 527 (o_push 528 (1)) := snd_iconst (n := 1) (z := 1) d_L_law_527 (by decide) (by unfold jrg; omega)
theorem g_L_law_528 : jSnd 0 528 (o_bin 529 f_add) := snd_iadd d_L_law_528
theorem g_L_law_529 : jSnd 0 529 (o_sald 530) := snd_sald d_L_law_529
theorem g_L_law_530 : jSnd 0 530 (o_aload 531 0) := snd_aload_n d_L_law_530 rfl
theorem g_L_law_531 : jSnd 0 531 (o_iload 532 3) := snd_iload_n d_L_law_531 rfl
theorem g_L_law_532 : jSnd 0 532 (o_push 533 (2)) := snd_iconst (n := 2) (z := 2) d_L_law_532 (by decide) (by unfold jrg; omega)
theorem g_L_law_533 : jSnd 0 533 (o_bin 534 f_add) := snd_iadd d_L_law_533
theorem g_L_law_534 : jSnd 0 534 (o_sald 535) := snd_sald d_L_law_534
theorem g_L_law_535 : jSnd 0 535 (o_call 538 60 3 7 14 false) := snd_callV (ci := 4) (n := 2) rfl d_L_law_535 (by decide) (by decide) (by decide) wc_60 wd_73 wd_74 wd_75 wd_7 (by decide +kernel) (by decide) (by decide)
theorem g_L_law_538 : jSnd 0 538 (o_ic_eq 541 814) := snd_ic_eq d_L_law_538 (by decide)
theorem g_L_law_541 : jSnd 0 541 (o_push 542 (0)) := snd_iconst (n := 0) (z := 0) d_L_law_541 (by decide) (by unfold jrg; omega)
theorem g_L_law_542 : jSnd 0 542 (o_zret) := snd_zret d_L_law_542 rfl
theorem g_L_law_543 : jSnd 0 543 (o_aload 544 1) := snd_aload_n d_L_law_543 rfl
theorem g_L_law_544 : jSnd 0 544 (o_aload 545 0) := snd_aload_n d_L_law_544 rfl
theorem g_L_law_545 : jSnd 0 545 (o_iload 546 3) := snd_iload_n d_L_law_545 rfl
theorem g_L_law_546 : jSnd 0 546 (o_push 547 (1)) := snd_iconst (n := 1) (z := 1) d_L_law_546 (by decide) (by unfold jrg; omega)
theorem g_L_law_547 : jSnd 0 547 (o_bin 548 f_add) := snd_iadd d_L_law_547
theorem g_L_law_548 : jSnd 0 548 (o_sald 549) := snd_sald d_L_law_548
theorem g_L_law_549 : jSnd 0 549 (o_aload 550 0) := snd_aload_n d_L_law_549 rfl
theorem g_L_law_550 : jSnd 0 550 (o_iload 551 3) := snd_iload_n d_L_law_550 rfl
theorem g_L_law_551 : jSnd 0 551 (o_push 552 (2)) := snd_iconst (n := 2) (z := 2) d_L_law_551 (by decide) (by unfold jrg; omega)
theorem g_L_law_552 : jSnd 0 552 (o_bin 553 f_add) := snd_iadd d_L_law_552
theorem g_L_law_553 : jSnd 0 553 (o_sald 554) := snd_sald d_L_law_553
theorem g_L_law_554 : jSnd 0 554 (o_aload 555 0) := snd_aload_n d_L_law_554 rfl
theorem g_L_law_555 : jSnd 0 555 (o_iload 556 3) := snd_iload_n d_L_law_555 rfl
theorem g_L_law_556 : jSnd 0 556 (o_push 557 (3)) := snd_iconst (n := 3) (z := 3) d_L_law_556 (by decide) (by unfold jrg; omega)
theorem g_L_law_557 : jSnd 0 557 (o_bin 558 f_add) := snd_iadd d_L_law_557
theorem g_L_law_558 : jSnd 0 558 (o_sald 559) := snd_sald d_L_law_558
theorem g_L_law_559 : jSnd 0 559 (o_call 562 13 4 4 13 false) := snd_callV (ci := 3) (n := 3) rfl d_L_law_559 (by decide) (by decide) (by decide) wc_13 wd_76 wd_77 wd_78 wd_2 (by decide +kernel) (by decide) (by decide)
theorem g_L_law_562 : jSnd 0 562 (o_aload 563 2) := snd_aload_n d_L_law_562 rfl
theorem g_L_law_563 : jSnd 0 563 (o_aload 564 0) := snd_aload_n d_L_law_563 rfl
theorem g_L_law_564 : jSnd 0 564 (o_iload 565 3) := snd_iload_n d_L_law_564 rfl
theorem g_L_law_565 : jSnd 0 565 (o_push 566 (1)) := snd_iconst (n := 1) (z := 1) d_L_law_565 (by decide) (by unfold jrg; omega)
theorem g_L_law_566 : jSnd 0 566 (o_bin 567 f_add) := snd_iadd d_L_law_566
theorem g_L_law_567 : jSnd 0 567 (o_sald 568) := snd_sald d_L_law_567
theorem g_L_law_568 : jSnd 0 568 (o_aload 569 0) := snd_aload_n d_L_law_568 rfl
theorem g_L_law_569 : jSnd 0 569 (o_iload 570 3) := snd_iload_n d_L_law_569 rfl
theorem g_L_law_570 : jSnd 0 570 (o_push 571 (2)) := snd_iconst (n := 2) (z := 2) d_L_law_570 (by decide) (by unfold jrg; omega)
theorem g_L_law_571 : jSnd 0 571 (o_bin 572 f_add) := snd_iadd d_L_law_571
theorem g_L_law_572 : jSnd 0 572 (o_sald 573) := snd_sald d_L_law_572
theorem g_L_law_573 : jSnd 0 573 (o_aload 574 0) := snd_aload_n d_L_law_573 rfl
theorem g_L_law_574 : jSnd 0 574 (o_iload 575 3) := snd_iload_n d_L_law_574 rfl
theorem g_L_law_575 : jSnd 0 575 (o_push 576 (3)) := snd_iconst (n := 3) (z := 3) d_L_law_575 (by decide) (by unfold jrg; omega)
theorem g_L_law_576 : jSnd 0 576 (o_bin 577 f_add) := snd_iadd d_L_law_576
theorem g_L_law_577 : jSnd 0 577 (o_sald 578) := snd_sald d_L_law_577
theorem g_L_law_578 : jSnd 0 578 (o_call 581 61 4 4 14 false) := snd_callV (ci := 4) (n := 3) rfl d_L_law_578 (by decide) (by decide) (by decide) wc_61 wd_79 wd_80 wd_81 wd_7 (by decide +kernel) (by decide) (by decide)
theorem g_L_law_581 : jSnd 0 581 (o_ic_eq 584 814) := snd_ic_eq d_L_law_581 (by decide)
theorem g_L_law_584 : jSnd 0 584 (o_push 585 (0)) := snd_iconst (n := 0) (z := 0) d_L_law_584 (by decide) (by unfold jrg; omega)
theorem g_L_law_585 : jSnd 0 585 (o_zret) := snd_zret d_L_law_585 rfl
theorem g_L_law_586 : jSnd 0 586 (o_aload 587 1) := snd_aload_n d_L_law_586 rfl
theorem g_L_law_587 : jSnd 0 587 (o_aload 588 0) := snd_aload_n d_L_law_587 rfl
theorem g_L_law_588 : jSnd 0 588 (o_iload 589 3) := snd_iload_n d_L_law_588 rfl
theorem g_L_law_589 : jSnd 0 589 (o_push 590 (1)) := snd_iconst (n := 1) (z := 1) d_L_law_589 (by decide) (by unfold jrg; omega)
theorem g_L_law_590 : jSnd 0 590 (o_bin 591 f_add) := snd_iadd d_L_law_590
theorem g_L_law_591 : jSnd 0 591 (o_sald 592) := snd_sald d_L_law_591
theorem g_L_law_592 : jSnd 0 592 (o_aload 593 0) := snd_aload_n d_L_law_592 rfl
theorem g_L_law_593 : jSnd 0 593 (o_iload 594 3) := snd_iload_n d_L_law_593 rfl
theorem g_L_law_594 : jSnd 0 594 (o_push 595 (2)) := snd_iconst (n := 2) (z := 2) d_L_law_594 (by decide) (by unfold jrg; omega)
theorem g_L_law_595 : jSnd 0 595 (o_bin 596 f_add) := snd_iadd d_L_law_595
theorem g_L_law_596 : jSnd 0 596 (o_sald 597) := snd_sald d_L_law_596
theorem g_L_law_597 : jSnd 0 597 (o_aload 598 0) := snd_aload_n d_L_law_597 rfl
theorem g_L_law_598 : jSnd 0 598 (o_iload 599 3) := snd_iload_n d_L_law_598 rfl
theorem g_L_law_599 : jSnd 0 599 (o_push 600 (3)) := snd_iconst (n := 3) (z := 3) d_L_law_599 (by decide) (by unfold jrg; omega)
theorem g_L_law_600 : jSnd 0 600 (o_bin 601 f_add) := snd_iadd d_L_law_600
theorem g_L_law_601 : jSnd 0 601 (o_sald 602) := snd_sald d_L_law_601
theorem g_L_law_602 : jSnd 0 602 (o_call 605 14 4 5 13 false) := snd_callV (ci := 3) (n := 3) rfl d_L_law_602 (by decide) (by decide) (by decide) wc_14 wd_82 wd_83 wd_84 wd_2 (by decide +kernel) (by decide) (by decide)
theorem g_L_law_605 : jSnd 0 605 (o_aload 606 2) := snd_aload_n d_L_law_605 rfl
theorem g_L_law_606 : jSnd 0 606 (o_aload 607 0) := snd_aload_n d_L_law_606 rfl
theorem g_L_law_607 : jSnd 0 607 (o_iload 608 3) := snd_iload_n d_L_law_607 rfl
theorem g_L_law_608 : jSnd 0 608 (o_push 609 (1)) := snd_iconst (n := 1) (z := 1) d_L_law_608 (by decide) (by unfold jrg; omega)
theorem g_L_law_609 : jSnd 0 609 (o_bin 610 f_add) := snd_iadd d_L_law_609
theorem g_L_law_610 : jSnd 0 610 (o_sald 611) := snd_sald d_L_law_610
theorem g_L_law_611 : jSnd 0 611 (o_aload 612 0) := snd_aload_n d_L_law_611 rfl
theorem g_L_law_612 : jSnd 0 612 (o_iload 613 3) := snd_iload_n d_L_law_612 rfl
theorem g_L_law_613 : jSnd 0 613 (o_push 614 (2)) := snd_iconst (n := 2) (z := 2) d_L_law_613 (by decide) (by unfold jrg; omega)
theorem g_L_law_614 : jSnd 0 614 (o_bin 615 f_add) := snd_iadd d_L_law_614
theorem g_L_law_615 : jSnd 0 615 (o_sald 616) := snd_sald d_L_law_615
theorem g_L_law_616 : jSnd 0 616 (o_aload 617 0) := snd_aload_n d_L_law_616 rfl
theorem g_L_law_617 : jSnd 0 617 (o_iload 618 3) := snd_iload_n d_L_law_617 rfl
theorem g_L_law_618 : jSnd 0 618 (o_push 619 (3)) := snd_iconst (n := 3) (z := 3) d_L_law_618 (by decide) (by unfold jrg; omega)
theorem g_L_law_619 : jSnd 0 619 (o_bin 620 f_add) := snd_iadd d_L_law_619
theorem g_L_law_620 : jSnd 0 620 (o_sald 621) := snd_sald d_L_law_620
theorem g_L_law_621 : jSnd 0 621 (o_call 624 64 4 4 14 false) := snd_callV (ci := 4) (n := 3) rfl d_L_law_621 (by decide) (by decide) (by decide) wc_64 wd_85 wd_86 wd_87 wd_7 (by decide +kernel) (by decide) (by decide)
theorem g_L_law_624 : jSnd 0 624 (o_ic_eq 627 814) := snd_ic_eq d_L_law_624 (by decide)
theorem g_L_law_627 : jSnd 0 627 (o_push 628 (0)) := snd_iconst (n := 0) (z := 0) d_L_law_627 (by decide) (by unfold jrg; omega)
theorem g_L_law_628 : jSnd 0 628 (o_zret) := snd_zret d_L_law_628 rfl
theorem g_L_law_629 : jSnd 0 629 (o_aload 630 1) := snd_aload_n d_L_law_629 rfl
theorem g_L_law_630 : jSnd 0 630 (o_aload 631 0) := snd_aload_n d_L_law_630 rfl
theorem g_L_law_631 : jSnd 0 631 (o_iload 632 3) := snd_iload_n d_L_law_631 rfl
theorem g_L_law_632 : jSnd 0 632 (o_push 633 (1)) := snd_iconst (n := 1) (z := 1) d_L_law_632 (by decide) (by unfold jrg; omega)
theorem g_L_law_633 : jSnd 0 633 (o_bin 634 f_add) := snd_iadd d_L_law_633
theorem g_L_law_634 : jSnd 0 634 (o_sald 635) := snd_sald d_L_law_634
theorem g_L_law_635 : jSnd 0 635 (o_aload 636 0) := snd_aload_n d_L_law_635 rfl
theorem g_L_law_636 : jSnd 0 636 (o_iload 637 3) := snd_iload_n d_L_law_636 rfl
theorem g_L_law_637 : jSnd 0 637 (o_push 638 (2)) := snd_iconst (n := 2) (z := 2) d_L_law_637 (by decide) (by unfold jrg; omega)
theorem g_L_law_638 : jSnd 0 638 (o_bin 639 f_add) := snd_iadd d_L_law_638
theorem g_L_law_639 : jSnd 0 639 (o_sald 640) := snd_sald d_L_law_639
theorem g_L_law_640 : jSnd 0 640 (o_aload 641 0) := snd_aload_n d_L_law_640 rfl
theorem g_L_law_641 : jSnd 0 641 (o_iload 642 3) := snd_iload_n d_L_law_641 rfl
theorem g_L_law_642 : jSnd 0 642 (o_push 643 (3)) := snd_iconst (n := 3) (z := 3) d_L_law_642 (by decide) (by unfold jrg; omega)
theorem g_L_law_643 : jSnd 0 643 (o_bin 644 f_add) := snd_iadd d_L_law_643
theorem g_L_law_644 : jSnd 0 644 (o_sald 645) := snd_sald d_L_law_644
theorem g_L_law_645 : jSnd 0 645 (o_call 648 15 4 4 13 false) := snd_callV (ci := 3) (n := 3) rfl d_L_law_645 (by decide) (by decide) (by decide) wc_15 wd_88 wd_89 wd_90 wd_2 (by decide +kernel) (by decide) (by decide)
theorem g_L_law_648 : jSnd 0 648 (o_aload 649 2) := snd_aload_n d_L_law_648 rfl
theorem g_L_law_649 : jSnd 0 649 (o_aload 650 0) := snd_aload_n d_L_law_649 rfl
theorem g_L_law_650 : jSnd 0 650 (o_iload 651 3) := snd_iload_n d_L_law_650 rfl
theorem g_L_law_651 : jSnd 0 651 (o_push 652 (1)) := snd_iconst (n := 1) (z := 1) d_L_law_651 (by decide) (by unfold jrg; omega)
theorem g_L_law_652 : jSnd 0 652 (o_bin 653 f_add) := snd_iadd d_L_law_652
theorem g_L_law_653 : jSnd 0 653 (o_sald 654) := snd_sald d_L_law_653
theorem g_L_law_654 : jSnd 0 654 (o_aload 655 0) := snd_aload_n d_L_law_654 rfl
theorem g_L_law_655 : jSnd 0 655 (o_iload 656 3) := snd_iload_n d_L_law_655 rfl
theorem g_L_law_656 : jSnd 0 656 (o_push 657 (2)) := snd_iconst (n := 2) (z := 2) d_L_law_656 (by decide) (by unfold jrg; omega)
theorem g_L_law_657 : jSnd 0 657 (o_bin 658 f_add) := snd_iadd d_L_law_657
theorem g_L_law_658 : jSnd 0 658 (o_sald 659) := snd_sald d_L_law_658
theorem g_L_law_659 : jSnd 0 659 (o_aload 660 0) := snd_aload_n d_L_law_659 rfl
theorem g_L_law_660 : jSnd 0 660 (o_iload 661 3) := snd_iload_n d_L_law_660 rfl
theorem g_L_law_661 : jSnd 0 661 (o_push 662 (3)) := snd_iconst (n := 3) (z := 3) d_L_law_661 (by decide) (by unfold jrg; omega)
theorem g_L_law_662 : jSnd 0 662 (o_bin 663 f_add) := snd_iadd d_L_law_662
theorem g_L_law_663 : jSnd 0 663 (o_sald 664) := snd_sald d_L_law_663
theorem g_L_law_664 : jSnd 0 664 (o_call 667 66 4 4 14 false) := snd_callV (ci := 4) (n := 3) rfl d_L_law_664 (by decide) (by decide) (by decide) wc_66 wd_91 wd_92 wd_93 wd_7 (by decide +kernel) (by decide) (by decide)
theorem g_L_law_667 : jSnd 0 667 (o_ic_eq 670 814) := snd_ic_eq d_L_law_667 (by decide)
theorem g_L_law_670 : jSnd 0 670 (o_push 671 (0)) := snd_iconst (n := 0) (z := 0) d_L_law_670 (by decide) (by unfold jrg; omega)
theorem g_L_law_671 : jSnd 0 671 (o_zret) := snd_zret d_L_law_671 rfl
theorem g_L_law_672 : jSnd 0 672 (o_aload 673 1) := snd_aload_n d_L_law_672 rfl
theorem g_L_law_673 : jSnd 0 673 (o_aload 674 0) := snd_aload_n d_L_law_673 rfl
theorem g_L_law_674 : jSnd 0 674 (o_iload 675 3) := snd_iload_n d_L_law_674 rfl
theorem g_L_law_675 : jSnd 0 675 (o_push 676 (1)) := snd_iconst (n := 1) (z := 1) d_L_law_675 (by decide) (by unfold jrg; omega)
theorem g_L_law_676 : jSnd 0 676 (o_bin 677 f_add) := snd_iadd d_L_law_676
theorem g_L_law_677 : jSnd 0 677 (o_sald 678) := snd_sald d_L_law_677
theorem g_L_law_678 : jSnd 0 678 (o_aload 679 0) := snd_aload_n d_L_law_678 rfl
theorem g_L_law_679 : jSnd 0 679 (o_iload 680 3) := snd_iload_n d_L_law_679 rfl
theorem g_L_law_680 : jSnd 0 680 (o_push 681 (2)) := snd_iconst (n := 2) (z := 2) d_L_law_680 (by decide) (by unfold jrg; omega)
theorem g_L_law_681 : jSnd 0 681 (o_bin 682 f_add) := snd_iadd d_L_law_681
theorem g_L_law_682 : jSnd 0 682 (o_sald 683) := snd_sald d_L_law_682
theorem g_L_law_683 : jSnd 0 683 (o_aload 684 0) := snd_aload_n d_L_law_683 rfl
theorem g_L_law_684 : jSnd 0 684 (o_iload 685 3) := snd_iload_n d_L_law_684 rfl
theorem g_L_law_685 : jSnd 0 685 (o_push 686 (3)) := snd_iconst (n := 3) (z := 3) d_L_law_685 (by decide) (by unfold jrg; omega)
theorem g_L_law_686 : jSnd 0 686 (o_bin 687 f_add) := snd_iadd d_L_law_686
theorem g_L_law_687 : jSnd 0 687 (o_sald 688) := snd_sald d_L_law_687
theorem g_L_law_688 : jSnd 0 688 (o_call 691 16 4 5 13 false) := snd_callV (ci := 3) (n := 3) rfl d_L_law_688 (by decide) (by decide) (by decide) wc_16 wd_94 wd_95 wd_96 wd_2 (by decide +kernel) (by decide) (by decide)
theorem g_L_law_691 : jSnd 0 691 (o_aload 692 2) := snd_aload_n d_L_law_691 rfl
theorem g_L_law_692 : jSnd 0 692 (o_aload 693 0) := snd_aload_n d_L_law_692 rfl
theorem g_L_law_693 : jSnd 0 693 (o_iload 694 3) := snd_iload_n d_L_law_693 rfl
theorem g_L_law_694 : jSnd 0 694 (o_push 695 (1)) := snd_iconst (n := 1) (z := 1) d_L_law_694 (by decide) (by unfold jrg; omega)
theorem g_L_law_695 : jSnd 0 695 (o_bin 696 f_add) := snd_iadd d_L_law_695
theorem g_L_law_696 : jSnd 0 696 (o_sald 697) := snd_sald d_L_law_696
theorem g_L_law_697 : jSnd 0 697 (o_aload 698 0) := snd_aload_n d_L_law_697 rfl
theorem g_L_law_698 : jSnd 0 698 (o_iload 699 3) := snd_iload_n d_L_law_698 rfl
theorem g_L_law_699 : jSnd 0 699 (o_push 700 (2)) := snd_iconst (n := 2) (z := 2) d_L_law_699 (by decide) (by unfold jrg; omega)
theorem g_L_law_700 : jSnd 0 700 (o_bin 701 f_add) := snd_iadd d_L_law_700
theorem g_L_law_701 : jSnd 0 701 (o_sald 702) := snd_sald d_L_law_701
theorem g_L_law_702 : jSnd 0 702 (o_aload 703 0) := snd_aload_n d_L_law_702 rfl
theorem g_L_law_703 : jSnd 0 703 (o_iload 704 3) := snd_iload_n d_L_law_703 rfl
theorem g_L_law_704 : jSnd 0 704 (o_push 705 (3)) := snd_iconst (n := 3) (z := 3) d_L_law_704 (by decide) (by unfold jrg; omega)
theorem g_L_law_705 : jSnd 0 705 (o_bin 706 f_add) := snd_iadd d_L_law_705
theorem g_L_law_706 : jSnd 0 706 (o_sald 707) := snd_sald d_L_law_706
theorem g_L_law_707 : jSnd 0 707 (o_call 710 69 4 6 14 false) := snd_callV (ci := 4) (n := 3) rfl d_L_law_707 (by decide) (by decide) (by decide) wc_69 wd_97 wd_98 wd_99 wd_7 (by decide +kernel) (by decide) (by decide)
theorem g_L_law_710 : jSnd 0 710 (o_ic_eq 713 814) := snd_ic_eq d_L_law_710 (by decide)
theorem g_L_law_713 : jSnd 0 713 (o_push 714 (0)) := snd_iconst (n := 0) (z := 0) d_L_law_713 (by decide) (by unfold jrg; omega)
theorem g_L_law_714 : jSnd 0 714 (o_zret) := snd_zret d_L_law_714 rfl
theorem g_L_law_715 : jSnd 0 715 (o_aload 716 1) := snd_aload_n d_L_law_715 rfl
theorem g_L_law_716 : jSnd 0 716 (o_aload 717 0) := snd_aload_n d_L_law_716 rfl
theorem g_L_law_717 : jSnd 0 717 (o_iload 718 3) := snd_iload_n d_L_law_717 rfl
theorem g_L_law_718 : jSnd 0 718 (o_push 719 (1)) := snd_iconst (n := 1) (z := 1) d_L_law_718 (by decide) (by unfold jrg; omega)
theorem g_L_law_719 : jSnd 0 719 (o_bin 720 f_add) := snd_iadd d_L_law_719
theorem g_L_law_720 : jSnd 0 720 (o_sald 721) := snd_sald d_L_law_720
theorem g_L_law_721 : jSnd 0 721 (o_aload 722 0) := snd_aload_n d_L_law_721 rfl
theorem g_L_law_722 : jSnd 0 722 (o_iload 723 3) := snd_iload_n d_L_law_722 rfl
theorem g_L_law_723 : jSnd 0 723 (o_push 724 (2)) := snd_iconst (n := 2) (z := 2) d_L_law_723 (by decide) (by unfold jrg; omega)
theorem g_L_law_724 : jSnd 0 724 (o_bin 725 f_add) := snd_iadd d_L_law_724
theorem g_L_law_725 : jSnd 0 725 (o_sald 726) := snd_sald d_L_law_725
theorem g_L_law_726 : jSnd 0 726 (o_call 729 17 3 3 13 false) := snd_callV (ci := 3) (n := 2) rfl d_L_law_726 (by decide) (by decide) (by decide) wc_17 wd_100 wd_101 wd_102 wd_2 (by decide +kernel) (by decide) (by decide)
theorem g_L_law_729 : jSnd 0 729 (o_aload 730 2) := snd_aload_n d_L_law_729 rfl
theorem g_L_law_730 : jSnd 0 730 (o_aload 731 0) := snd_aload_n d_L_law_730 rfl
theorem g_L_law_731 : jSnd 0 731 (o_iload 732 3) := snd_iload_n d_L_law_731 rfl
theorem g_L_law_732 : jSnd 0 732 (o_push 733 (1)) := snd_iconst (n := 1) (z := 1) d_L_law_732 (by decide) (by unfold jrg; omega)
theorem g_L_law_733 : jSnd 0 733 (o_bin 734 f_add) := snd_iadd d_L_law_733
theorem g_L_law_734 : jSnd 0 734 (o_sald 735) := snd_sald d_L_law_734
theorem g_L_law_735 : jSnd 0 735 (o_aload 736 0) := snd_aload_n d_L_law_735 rfl
theorem g_L_law_736 : jSnd 0 736 (o_iload 737 3) := snd_iload_n d_L_law_736 rfl
theorem g_L_law_737 : jSnd 0 737 (o_push 738 (2)) := snd_iconst (n := 2) (z := 2) d_L_law_737 (by decide) (by unfold jrg; omega)
theorem g_L_law_738 : jSnd 0 738 (o_bin 739 f_add) := snd_iadd d_L_law_738
theorem g_L_law_739 : jSnd 0 739 (o_sald 740) := snd_sald d_L_law_739
theorem g_L_law_740 : jSnd 0 740 (o_call 743 70 3 3 14 false) := snd_callV (ci := 4) (n := 2) rfl d_L_law_740 (by decide) (by decide) (by decide) wc_70 wd_103 wd_104 wd_105 wd_7 (by decide +kernel) (by decide) (by decide)
theorem g_L_law_743 : jSnd 0 743 (o_ic_eq 746 814) := snd_ic_eq d_L_law_743 (by decide)
theorem g_L_law_746 : jSnd 0 746 (o_push 747 (0)) := snd_iconst (n := 0) (z := 0) d_L_law_746 (by decide) (by unfold jrg; omega)
theorem g_L_law_747 : jSnd 0 747 (o_zret) := snd_zret d_L_law_747 rfl
theorem g_L_law_748 : jSnd 0 748 (o_aload 749 1) := snd_aload_n d_L_law_748 rfl
theorem g_L_law_749 : jSnd 0 749 (o_aload 750 0) := snd_aload_n d_L_law_749 rfl
theorem g_L_law_750 : jSnd 0 750 (o_iload 751 3) := snd_iload_n d_L_law_750 rfl
theorem g_L_law_751 : jSnd 0 751 (o_push 752 (1)) := snd_iconst (n := 1) (z := 1) d_L_law_751 (by decide) (by unfold jrg; omega)
theorem g_L_law_752 : jSnd 0 752 (o_bin 753 f_add) := snd_iadd d_L_law_752
theorem g_L_law_753 : jSnd 0 753 (o_sald 754) := snd_sald d_L_law_753
theorem g_L_law_754 : jSnd 0 754 (o_aload 755 0) := snd_aload_n d_L_law_754 rfl
theorem g_L_law_755 : jSnd 0 755 (o_iload 756 3) := snd_iload_n d_L_law_755 rfl
theorem g_L_law_756 : jSnd 0 756 (o_push 757 (2)) := snd_iconst (n := 2) (z := 2) d_L_law_756 (by decide) (by unfold jrg; omega)
theorem g_L_law_757 : jSnd 0 757 (o_bin 758 f_add) := snd_iadd d_L_law_757
theorem g_L_law_758 : jSnd 0 758 (o_sald 759) := snd_sald d_L_law_758
theorem g_L_law_759 : jSnd 0 759 (o_call 762 18 3 5 13 false) := snd_callV (ci := 3) (n := 2) rfl d_L_law_759 (by decide) (by decide) (by decide) wc_18 wd_106 wd_107 wd_108 wd_2 (by decide +kernel) (by decide) (by decide)
theorem g_L_law_762 : jSnd 0 762 (o_aload 763 2) := snd_aload_n d_L_law_762 rfl
theorem g_L_law_763 : jSnd 0 763 (o_aload 764 0) := snd_aload_n d_L_law_763 rfl
theorem g_L_law_764 : jSnd 0 764 (o_iload 765 3) := snd_iload_n d_L_law_764 rfl
theorem g_L_law_765 : jSnd 0 765 (o_push 766 (1)) := snd_iconst (n := 1) (z := 1) d_L_law_765 (by decide) (by unfold jrg; omega)
theorem g_L_law_766 : jSnd 0 766 (o_bin 767 f_add) := snd_iadd d_L_law_766
theorem g_L_law_767 : jSnd 0 767 (o_sald 768) := snd_sald d_L_law_767
theorem g_L_law_768 : jSnd 0 768 (o_aload 769 0) := snd_aload_n d_L_law_768 rfl
theorem g_L_law_769 : jSnd 0 769 (o_iload 770 3) := snd_iload_n d_L_law_769 rfl
theorem g_L_law_770 : jSnd 0 770 (o_push 771 (2)) := snd_iconst (n := 2) (z := 2) d_L_law_770 (by decide) (by unfold jrg; omega)
theorem g_L_law_771 : jSnd 0 771 (o_bin 772 f_add) := snd_iadd d_L_law_771
theorem g_L_law_772 : jSnd 0 772 (o_sald 773) := snd_sald d_L_law_772
theorem g_L_law_773 : jSnd 0 773 (o_call 776 74 3 5 14 false) := snd_callV (ci := 4) (n := 2) rfl d_L_law_773 (by decide) (by decide) (by decide) wc_74 wd_109 wd_110 wd_111 wd_7 (by decide +kernel) (by decide) (by decide)
theorem g_L_law_776 : jSnd 0 776 (o_ic_eq 779 814) := snd_ic_eq d_L_law_776 (by decide)
theorem g_L_law_779 : jSnd 0 779 (o_push 780 (0)) := snd_iconst (n := 0) (z := 0) d_L_law_779 (by decide) (by unfold jrg; omega)
theorem g_L_law_780 : jSnd 0 780 (o_zret) := snd_zret d_L_law_780 rfl
theorem g_L_law_781 : jSnd 0 781 (o_aload 782 1) := snd_aload_n d_L_law_781 rfl
theorem g_L_law_782 : jSnd 0 782 (o_aload 783 0) := snd_aload_n d_L_law_782 rfl
theorem g_L_law_783 : jSnd 0 783 (o_iload 784 3) := snd_iload_n d_L_law_783 rfl
theorem g_L_law_784 : jSnd 0 784 (o_push 785 (1)) := snd_iconst (n := 1) (z := 1) d_L_law_784 (by decide) (by unfold jrg; omega)
theorem g_L_law_785 : jSnd 0 785 (o_bin 786 f_add) := snd_iadd d_L_law_785
theorem g_L_law_786 : jSnd 0 786 (o_sald 787) := snd_sald d_L_law_786
theorem g_L_law_787 : jSnd 0 787 (o_aload 788 0) := snd_aload_n d_L_law_787 rfl
theorem g_L_law_788 : jSnd 0 788 (o_iload 789 3) := snd_iload_n d_L_law_788 rfl
theorem g_L_law_789 : jSnd 0 789 (o_push 790 (2)) := snd_iconst (n := 2) (z := 2) d_L_law_789 (by decide) (by unfold jrg; omega)
theorem g_L_law_790 : jSnd 0 790 (o_bin 791 f_add) := snd_iadd d_L_law_790
theorem g_L_law_791 : jSnd 0 791 (o_sald 792) := snd_sald d_L_law_791
theorem g_L_law_792 : jSnd 0 792 (o_call 795 19 3 4 13 false) := snd_callV (ci := 3) (n := 2) rfl d_L_law_792 (by decide) (by decide) (by decide) wc_19 wd_112 wd_113 wd_114 wd_2 (by decide +kernel) (by decide) (by decide)
theorem g_L_law_795 : jSnd 0 795 (o_aload 796 2) := snd_aload_n d_L_law_795 rfl
theorem g_L_law_796 : jSnd 0 796 (o_aload 797 0) := snd_aload_n d_L_law_796 rfl
theorem g_L_law_797 : jSnd 0 797 (o_iload 798 3) := snd_iload_n d_L_law_797 rfl
theorem g_L_law_798 : jSnd 0 798 (o_push 799 (1)) := snd_iconst (n := 1) (z := 1) d_L_law_798 (by decide) (by unfold jrg; omega)
theorem g_L_law_799 : jSnd 0 799 (o_bin 800 f_add) := snd_iadd d_L_law_799
theorem g_L_law_800 : jSnd 0 800 (o_sald 801) := snd_sald d_L_law_800
theorem g_L_law_801 : jSnd 0 801 (o_aload 802 0) := snd_aload_n d_L_law_801 rfl
theorem g_L_law_802 : jSnd 0 802 (o_iload 803 3) := snd_iload_n d_L_law_802 rfl
theorem g_L_law_803 : jSnd 0 803 (o_push 804 (2)) := snd_iconst (n := 2) (z := 2) d_L_law_803 (by decide) (by unfold jrg; omega)
theorem g_L_law_804 : jSnd 0 804 (o_bin 805 f_add) := snd_iadd d_L_law_804
theorem g_L_law_805 : jSnd 0 805 (o_sald 806) := snd_sald d_L_law_805
theorem g_L_law_806 : jSnd 0 806 (o_call 809 77 3 3 14 false) := snd_callV (ci := 4) (n := 2) rfl d_L_law_806 (by decide) (by decide) (by decide) wc_77 wd_115 wd_116 wd_117 wd_7 (by decide +kernel) (by decide) (by decide)
theorem g_L_law_809 : jSnd 0 809 (o_ic_eq 812 814) := snd_ic_eq d_L_law_809 (by decide)
theorem g_L_law_812 : jSnd 0 812 (o_push 813 (0)) := snd_iconst (n := 0) (z := 0) d_L_law_812 (by decide) (by unfold jrg; omega)
theorem g_L_law_813 : jSnd 0 813 (o_zret) := snd_zret d_L_law_813 rfl
theorem g_L_law_814 : jSnd 0 814 (o_iinc 817 3 (6)) := snd_iinc d_L_law_814 (by decide)
theorem g_L_law_817 : jSnd 0 817 (o_goto 18) := snd_goto d_L_law_817 (by decide)
theorem g_L_law_820 : jSnd 0 820 (o_push 821 (1)) := snd_iconst (n := 1) (z := 1) d_L_law_820 (by decide) (by unfold jrg; omega)
theorem g_L_law_821 : jSnd 0 821 (o_zret) := snd_zret d_L_law_821 rfl
set_option maxRecDepth 100000 in
theorem ga_L_law : jAll 0 0 tmp_L_law := ⟨g_L_law_0, snd_bad _ _, snd_bad _ _, g_L_law_3, g_L_law_4, snd_bad _ _, snd_bad _ _, g_L_law_7, g_L_law_8, snd_bad _ _, snd_bad _ _, g_L_law_11, g_L_law_12, snd_bad _ _, snd_bad _ _, g_L_law_15, g_L_law_16, g_L_law_17, g_L_law_18, g_L_law_19, g_L_law_20, g_L_law_21, snd_bad _ _, g_L_law_23, g_L_law_24, snd_bad _ _, snd_bad _ _, g_L_law_27, g_L_law_28, g_L_law_29, g_L_law_30, snd_bad _ _, g_L_law_32, g_L_law_33, snd_bad _ _, snd_bad _ _, snd_bad _ _, snd_bad _ _, snd_bad _ _, snd_bad _ _, snd_bad _ _, snd_bad _ _, snd_bad _ _, snd_bad _ _, snd_bad _ _, snd_bad _ _, snd_bad _ _, snd_bad _ _, snd_bad _ _, snd_bad _ _, snd_bad _ _, snd_bad _ _, snd_bad _ _, snd_bad _ _, snd_bad _ _, snd_bad _ _, snd_bad _ _, snd_bad _ _, snd_bad _ _, snd_bad _ _, snd_bad _ _, snd_bad _ _, snd_bad _ _, snd_bad _ _, snd_bad _ _, snd_bad _ _, snd_bad _ _, snd_bad _ _, snd_bad _ _, snd_bad _ _, snd_bad _ _, snd_bad _ _, snd_bad _ _, snd_bad _ _, snd_bad _ _, snd_bad _ _, snd_bad _ _, snd_bad _ _, snd_bad _ _, snd_bad _ _, snd_bad _ _, snd_bad _ _, snd_bad _ _, snd_bad _ _, snd_bad _ _, snd_bad _ _, snd_bad _ _, snd_bad _ _, snd_bad _ _, snd_bad _ _, snd_bad _ _, snd_bad _ _, snd_bad _ _, snd_bad _ _, snd_bad _ _, snd_bad _ _, snd_bad _ _, snd_bad _ _, snd_bad _ _, snd_bad _ _, snd_bad _ _, snd_bad _ _, snd_bad _ _, snd_bad _ _, snd_bad _ _, snd_bad _ _, snd_bad _ _, snd_bad _ _, snd_bad _ _, snd_bad _ _, snd_bad _ _, snd_bad _ _, snd_bad _ _, snd_bad _ _, snd_bad _ _, snd_bad _ _, snd_bad _ _, snd_bad _ _, snd_bad _ _, snd_bad _ _, g_L_law_120, g_L_law_121, g_L_law_122, g_L_law_123, g_L_law_124, g_L_law_125, g_L_law_126, g_L_law_127, g_L_law_128, g_L_law_129, g_L_law_130, g_L_law_131, g_L_law_132, g_L_law_133, g_L_law_134, g_L_law_135, g_L_law_136, snd_bad _ _, snd_bad _ _, g_L_law_139, g_L_law_140, g_L_law_141, g_L_law_142, g_L_law_143, g_L_law_144, g_L_law_145, g_L_law_146, g_L_law_147, g_L_law_148, g_L_law_149, g_L_law_150, g_L_law_151, g_L_law_152, g_L_law_153, g_L_law_154, g_L_law_155, snd_bad _ _, snd_bad _ _, g_L_law_158, snd_bad _ _, snd_bad _ _, g_L_law_161, g_L_law_162, g_L_law_163, g_L_law_164, g_L_law_165, g_L_law_166, g_L_law_167, g_L_law_168, g_L_law_169, g_L_law_170, g_L_law_171, g_L_law_172, g_L_law_173, g_L_law_174, snd_bad _ _, snd_bad _ _, g_L_law_177, g_L_law_178, g_L_law_179, g_L_law_180, g_L_law_181, g_L_law_182, g_L_law_183, g_L_law_184, g_L_law_185, g_L_law_186, g_L_law_187, g_L_law_188, snd_bad _ _, snd_bad _ _, g_L_law_191, snd_bad _ _, snd_bad _ _, g_L_law_194, g_L_law_195, g_L_law_196, g_L_law_197, g_L_law_198, g_L_law_199, g_L_law_200, g_L_law_201, g_L_law_202, g_L_law_203, g_L_law_204, g_L_law_205, g_L_law_206, g_L_law_207, g_L_law_208, g_L_law_209, g_L_law_210, g_L_law_211, g_L_law_212, g_L_law_213, g_L_law_214, g_L_law_215, g_L_law_216, g_L_law_217, g_L_law_218, g_L_law_219, g_L_law_220, g_L_law_221, g_L_law_222, snd_bad _ _, snd_bad _ _, g_L_law_225, g_L_law_226, g_L_law_227, g_L_law_228, g_L_law_229, g_L_law_230, g_L_law_231, g_L_law_232, g_L_law_233, g_L_law_234, g_L_law_235, g_L_law_236, g_L_law_237, g_L_law_238, g_L_law_239, g_L_law_240, g_L_law_241, g_L_law_242, g_L_law_243, g_L_law_244, g_L_law_245, g_L_law_246, g_L_law_247, g_L_law_248, g_L_law_249, g_L_law_250, g_L_law_251, snd_bad _ _, snd_bad _ _, g_L_law_254, snd_bad _ _, snd_bad _ _, g_L_law_257, g_L_law_258, g_L_law_259, g_L_law_260, g_L_law_261, g_L_law_262, g_L_law_263, g_L_law_264, g_L_law_265, g_L_law_266, g_L_law_267, g_L_law_268, g_L_law_269, g_L_law_270, g_L_law_271, g_L_law_272, g_L_law_273, g_L_law_274, g_L_law_275, snd_bad _ _, snd_bad _ _, g_L_law_278, g_L_law_279, g_L_law_280, g_L_law_281, g_L_law_282, g_L_law_283, g_L_law_284, g_L_law_285, g_L_law_286, g_L_law_287, g_L_law_288, g_L_law_289, g_L_law_290, g_L_law_291, g_L_law_292, g_L_law_293, g_L_law_294, snd_bad _ _, snd_bad _ _, g_L_law_297, snd_bad _ _, snd_bad _ _, g_L_law_300, g_L_law_301, g_L_law_302, g_L_law_303, g_L_law_304, g_L_law_305, g_L_law_306, g_L_law_307, g_L_law_308, g_L_law_309, g_L_law_310, g_L_law_311, g_L_law_312, g_L_law_313, g_L_law_314, g_L_law_315, g_L_law_316, g_L_law_317, g_L_law_318, snd_bad _ _, snd_bad _ _, g_L_law_321, g_L_law_322, g_L_law_323, g_L_law_324, g_L_law_325, g_L_law_326, g_L_law_327, g_L_law_328, g_L_law_329, g_L_law_330, g_L_law_331, g_L_law_332, g_L_law_333, g_L_law_334, g_L_law_335, g_L_law_336, g_L_law_337, snd_bad _ _, snd_bad _ _, g_L_law_340, snd_bad _ _, snd_bad _ _, g_L_law_343, g_L_law_344, g_L_law_345, g_L_law_346, g_L_law_347, g_L_law_348, g_L_law_349, g_L_law_350, g_L_law_351, g_L_law_352, g_L_law_353, g_L_law_354, g_L_law_355, g_L_law_356, snd_bad _ _, snd_bad _ _, g_L_law_359, g_L_law_360, g_L_law_361, g_L_law_362, g_L_law_363, g_L_law_364, g_L_law_365, g_L_law_366, g_L_law_367, g_L_law_368, g_L_law_369, g_L_law_370, snd_bad _ _, snd_bad _ _, g_L_law_373, snd_bad _ _, snd_bad _ _, g_L_law_376, g_L_law_377, g_L_law_378, g_L_law_379, g_L_law_380, g_L_law_381, g_L_law_382, g_L_law_383, g_L_law_384, g_L_law_385, g_L_law_386, g_L_law_387, g_L_law_388, g_L_law_389, snd_bad _ _, snd_bad _ _, g_L_law_392, g_L_law_393, g_L_law_394, g_L_law_395, g_L_law_396, g_L_law_397, g_L_law_398, g_L_law_399, g_L_law_400, g_L_law_401, g_L_law_402, g_L_law_403, snd_bad _ _, snd_bad _ _, g_L_law_406, snd_bad _ _, snd_bad _ _, g_L_law_409, g_L_law_410, g_L_law_411, g_L_law_412, g_L_law_413, g_L_law_414, g_L_law_415, g_L_law_416, g_L_law_417, g_L_law_418, g_L_law_419, g_L_law_420, g_L_law_421, g_L_law_422, snd_bad _ _, snd_bad _ _, g_L_law_425, g_L_law_426, g_L_law_427, g_L_law_428, g_L_law_429, g_L_law_430, g_L_law_431, g_L_law_432, g_L_law_433, g_L_law_434, g_L_law_435, g_L_law_436, snd_bad _ _, snd_bad _ _, g_L_law_439, snd_bad _ _, snd_bad _ _, g_L_law_442, g_L_law_443, g_L_law_444, g_L_law_445, g_L_law_446, g_L_law_447, g_L_law_448, g_L_law_449, g_L_law_450, g_L_law_451, g_L_law_452, g_L_law_453, g_L_law_454, g_L_law_455, snd_bad _ _, snd_bad _ _, g_L_law_458, g_L_law_459, g_L_law_460, g_L_law_461, g_L_law_462, g_L_law_463, g_L_law_464, g_L_law_465, g_L_law_466, g_L_law_467, g_L_law_468, g_L_law_469, snd_bad _ _, snd_bad _ _, g_L_law_472, snd_bad _ _, snd_bad _ _, g_L_law_475, g_L_law_476, g_L_law_477, g_L_law_478, g_L_law_479, g_L_law_480, g_L_law_481, g_L_law_482, g_L_law_483, g_L_law_484, g_L_law_485, g_L_law_486, g_L_law_487, g_L_law_488, snd_bad _ _, snd_bad _ _, g_L_law_491, g_L_law_492, g_L_law_493, g_L_law_494, g_L_law_495, g_L_law_496, g_L_law_497, g_L_law_498, g_L_law_499, g_L_law_500, g_L_law_501, g_L_law_502, snd_bad _ _, snd_bad _ _, g_L_law_505, snd_bad _ _, snd_bad _ _, g_L_law_508, g_L_law_509, g_L_law_510, g_L_law_511, g_L_law_512, g_L_law_513, g_L_law_514, g_L_law_515, g_L_law_516, g_L_law_517, g_L_law_518, g_L_law_519, g_L_law_520, g_L_law_521, snd_bad _ _, snd_bad _ _, g_L_law_524, g_L_law_525, g_L_law_526, g_L_law_527, g_L_law_528, g_L_law_529, g_L_law_530, g_L_law_531, g_L_law_532, g_L_law_533, g_L_law_534, g_L_law_535, snd_bad _ _, snd_bad _ _, g_L_law_538, snd_bad _ _, snd_bad _ _, g_L_law_541, g_L_law_542, g_L_law_543, g_L_law_544, g_L_law_545, g_L_law_546, g_L_law_547, g_L_law_548, g_L_law_549, g_L_law_550, g_L_law_551, g_L_law_552, g_L_law_553, g_L_law_554, g_L_law_555, g_L_law_556, g_L_law_557, g_L_law_558, g_L_law_559, snd_bad _ _, snd_bad _ _, g_L_law_562, g_L_law_563, g_L_law_564, g_L_law_565, g_L_law_566, g_L_law_567, g_L_law_568, g_L_law_569, g_L_law_570, g_L_law_571, g_L_law_572, g_L_law_573, g_L_law_574, g_L_law_575, g_L_law_576, g_L_law_577, g_L_law_578, snd_bad _ _, snd_bad _ _, g_L_law_581, snd_bad _ _, snd_bad _ _, g_L_law_584, g_L_law_585, g_L_law_586, g_L_law_587, g_L_law_588, g_L_law_589, g_L_law_590, g_L_law_591, g_L_law_592, g_L_law_593, g_L_law_594, g_L_law_595, g_L_law_596, g_L_law_597, g_L_law_598, g_L_law_599, g_L_law_600, g_L_law_601, g_L_law_602, snd_bad _ _, snd_bad _ _, g_L_law_605, g_L_law_606, g_L_law_607, g_L_law_608, g_L_law_609, g_L_law_610, g_L_law_611, g_L_law_612, g_L_law_613, g_L_law_614, g_L_law_615, g_L_law_616, g_L_law_617, g_L_law_618, g_L_law_619, g_L_law_620, g_L_law_621, snd_bad _ _, snd_bad _ _, g_L_law_624, snd_bad _ _, snd_bad _ _, g_L_law_627, g_L_law_628, g_L_law_629, g_L_law_630, g_L_law_631, g_L_law_632, g_L_law_633, g_L_law_634, g_L_law_635, g_L_law_636, g_L_law_637, g_L_law_638, g_L_law_639, g_L_law_640, g_L_law_641, g_L_law_642, g_L_law_643, g_L_law_644, g_L_law_645, snd_bad _ _, snd_bad _ _, g_L_law_648, g_L_law_649, g_L_law_650, g_L_law_651, g_L_law_652, g_L_law_653, g_L_law_654, g_L_law_655, g_L_law_656, g_L_law_657, g_L_law_658, g_L_law_659, g_L_law_660, g_L_law_661, g_L_law_662, g_L_law_663, g_L_law_664, snd_bad _ _, snd_bad _ _, g_L_law_667, snd_bad _ _, snd_bad _ _, g_L_law_670, g_L_law_671, g_L_law_672, g_L_law_673, g_L_law_674, g_L_law_675, g_L_law_676, g_L_law_677, g_L_law_678, g_L_law_679, g_L_law_680, g_L_law_681, g_L_law_682, g_L_law_683, g_L_law_684, g_L_law_685, g_L_law_686, g_L_law_687, g_L_law_688, snd_bad _ _, snd_bad _ _, g_L_law_691, g_L_law_692, g_L_law_693, g_L_law_694, g_L_law_695, g_L_law_696, g_L_law_697, g_L_law_698, g_L_law_699, g_L_law_700, g_L_law_701, g_L_law_702, g_L_law_703, g_L_law_704, g_L_law_705, g_L_law_706, g_L_law_707, snd_bad _ _, snd_bad _ _, g_L_law_710, snd_bad _ _, snd_bad _ _, g_L_law_713, g_L_law_714, g_L_law_715, g_L_law_716, g_L_law_717, g_L_law_718, g_L_law_719, g_L_law_720, g_L_law_721, g_L_law_722, g_L_law_723, g_L_law_724, g_L_law_725, g_L_law_726, snd_bad _ _, snd_bad _ _, g_L_law_729, g_L_law_730, g_L_law_731, g_L_law_732, g_L_law_733, g_L_law_734, g_L_law_735, g_L_law_736, g_L_law_737, g_L_law_738, g_L_law_739, g_L_law_740, snd_bad _ _, snd_bad _ _, g_L_law_743, snd_bad _ _, snd_bad _ _, g_L_law_746, g_L_law_747, g_L_law_748, g_L_law_749, g_L_law_750, g_L_law_751, g_L_law_752, g_L_law_753, g_L_law_754, g_L_law_755, g_L_law_756, g_L_law_757, g_L_law_758, g_L_law_759, snd_bad _ _, snd_bad _ _, g_L_law_762, g_L_law_763, g_L_law_764, g_L_law_765, g_L_law_766, g_L_law_767, g_L_law_768, g_L_law_769, g_L_law_770, g_L_law_771, g_L_law_772, g_L_law_773, snd_bad _ _, snd_bad _ _, g_L_law_776, snd_bad _ _, snd_bad _ _, g_L_law_779, g_L_law_780, g_L_law_781, g_L_law_782, g_L_law_783, g_L_law_784, g_L_law_785, g_L_law_786, g_L_law_787, g_L_law_788, g_L_law_789, g_L_law_790, g_L_law_791, g_L_law_792, snd_bad _ _, snd_bad _ _, g_L_law_795, g_L_law_796, g_L_law_797, g_L_law_798, g_L_law_799, g_L_law_800, g_L_law_801, g_L_law_802, g_L_law_803, g_L_law_804, g_L_law_805, g_L_law_806, snd_bad _ _, snd_bad _ _, g_L_law_809, snd_bad _ _, snd_bad _ _, g_L_law_812, g_L_law_813, g_L_law_814, snd_bad _ _, snd_bad _ _, g_L_law_817, snd_bad _ _, snd_bad _ _, g_L_law_820, g_L_law_821, trivial⟩
theorem d_T_init_0 : decode (tm_c 1) 0 = .ok (.aload_n 0, 1) := by decide +kernel
theorem d_T_init_1 : decode (tm_c 1) 1 = .ok (.invokespecial 1, 3) := by decide +kernel
theorem d_T_init_4 : decode (tm_c 1) 4 = .ok (.aload_n 0, 1) := by decide +kernel
theorem d_T_init_5 : decode (tm_c 1) 5 = .ok (.new 7, 3) := by decide +kernel
theorem d_T_init_8 : decode (tm_c 1) 8 = .ok (.dup, 1) := by decide +kernel
theorem d_T_init_9 : decode (tm_c 1) 9 = .ok (.invokespecial 9, 3) := by decide +kernel
theorem d_T_init_12 : decode (tm_c 1) 12 = .ok (.putfield 10, 3) := by decide +kernel
theorem d_T_init_15 : decode (tm_c 1) 15 = .ok (.aload_n 0, 1) := by decide +kernel
theorem d_T_init_16 : decode (tm_c 1) 16 = .ok (.iconst (4), 1) := by decide +kernel
theorem d_T_init_17 : decode (tm_c 1) 17 = .ok (.anewarray 16, 3) := by decide +kernel
theorem d_T_init_20 : decode (tm_c 1) 20 = .ok (.putfield 18, 3) := by decide +kernel
theorem d_T_init_23 : decode (tm_c 1) 23 = .ok (.iconst (0), 1) := by decide +kernel
theorem d_T_init_24 : decode (tm_c 1) 24 = .ok (.istore_n 1, 1) := by decide +kernel
theorem d_T_init_25 : decode (tm_c 1) 25 = .ok (.iload_n 1, 1) := by decide +kernel
theorem d_T_init_26 : decode (tm_c 1) 26 = .ok (.iconst (4), 1) := by decide +kernel
theorem d_T_init_27 : decode (tm_c 1) 27 = .ok (.if_icmp .ge (22), 3) := by decide +kernel
theorem d_T_init_30 : decode (tm_c 1) 30 = .ok (.aload_n 0, 1) := by decide +kernel
theorem d_T_init_31 : decode (tm_c 1) 31 = .ok (.getfield 18, 3) := by decide +kernel
theorem d_T_init_34 : decode (tm_c 1) 34 = .ok (.iload_n 1, 1) := by decide +kernel
theorem d_T_init_35 : decode (tm_c 1) 35 = .ok (.new 16, 3) := by decide +kernel
theorem d_T_init_38 : decode (tm_c 1) 38 = .ok (.dup, 1) := by decide +kernel
theorem d_T_init_39 : decode (tm_c 1) 39 = .ok (.invokespecial 22, 3) := by decide +kernel
theorem d_T_init_42 : decode (tm_c 1) 42 = .ok (.aastore, 1) := by decide +kernel
theorem d_T_init_43 : decode (tm_c 1) 43 = .ok (.iinc 1 (1), 3) := by decide +kernel
theorem d_T_init_46 : decode (tm_c 1) 46 = .ok (.goto (-21), 3) := by decide +kernel
theorem d_T_init_49 : decode (tm_c 1) 49 = .ok (.aload_n 0, 1) := by decide +kernel
theorem d_T_init_50 : decode (tm_c 1) 50 = .ok (.new 23, 3) := by decide +kernel
theorem d_T_init_53 : decode (tm_c 1) 53 = .ok (.dup, 1) := by decide +kernel
theorem d_T_init_54 : decode (tm_c 1) 54 = .ok (.invokespecial 25, 3) := by decide +kernel
theorem d_T_init_57 : decode (tm_c 1) 57 = .ok (.putfield 26, 3) := by decide +kernel
theorem d_T_init_60 : decode (tm_c 1) 60 = .ok (.aload_n 0, 1) := by decide +kernel
theorem d_T_init_61 : decode (tm_c 1) 61 = .ok (.new 23, 3) := by decide +kernel
theorem d_T_init_64 : decode (tm_c 1) 64 = .ok (.dup, 1) := by decide +kernel
theorem d_T_init_65 : decode (tm_c 1) 65 = .ok (.invokespecial 25, 3) := by decide +kernel
theorem d_T_init_68 : decode (tm_c 1) 68 = .ok (.putfield 30, 3) := by decide +kernel
theorem d_T_init_71 : decode (tm_c 1) 71 = .ok (.return_, 1) := by decide +kernel
theorem g_T_init_0 : jSnd 1 0 (o_aload 1 0) := snd_aload_n d_T_init_0 rfl
theorem g_T_init_1 : jSnd 1 1 (o_objinit 4) := snd_objinit d_T_init_1 wd_118 wd_119 wo_obj (by decide) (by decide)
theorem g_T_init_4 : jSnd 1 4 (o_aload 5 0) := snd_aload_n d_T_init_4 rfl
theorem g_T_init_5 : jSnd 1 5 (o_new 8 11 6) := snd_new (ci := 1) d_T_init_5 rfl tm_in1 tm_D1 tm_ty1 wd_120 wd_121 wd_122 rfl tm_df1
theorem g_T_init_8 : jSnd 1 8 (o_dup 9) := snd_dup d_T_init_8
theorem g_T_init_9 : jSnd 1 9 (o_call 12 83 1 1 11 true) := snd_callIN (ci := 1) (n := 0) rfl d_T_init_9 (by decide) (by decide) (by decide) wc_83 wn_17_1 wd_123 rfl rfl wd_122 (by decide +kernel) (by decide) (by decide)
theorem g_T_init_12 : jSnd 1 12 (o_putR 15 13 (0)) := snd_putRF (ci := 3) (k := 0) d_T_init_12 rfl tm_in3 tm_D3 tm_ty3 tm_nm3 (by decide) wd_124 rfl rfl rfl (fun o => by cases o <;> exact ⟨rfl, rfl⟩) rfl
theorem g_T_init_15 : jSnd 1 15 (o_aload 16 0) := snd_aload_n d_T_init_15 rfl
theorem g_T_init_16 : jSnd 1 16 (o_push 17 (4)) := snd_iconst (n := 4) (z := 4) d_T_init_16 (by decide) (by unfold jrg; omega)
theorem g_T_init_17 : jSnd 1 17 (o_newa 20 3) := snd_newQ (t0 := 2) d_T_init_17 wd_125 wo_Node (by decide) (by decide) rfl
theorem g_T_init_20 : jSnd 1 20 (o_putR 23 13 (1)) := snd_putRF (ci := 3) (k := 1) d_T_init_20 rfl tm_in3 tm_D3 tm_ty3 tm_nm3 (by decide) wd_126 rfl rfl rfl (fun o => by cases o <;> exact ⟨rfl, rfl⟩) rfl
theorem g_T_init_23 : jSnd 1 23 (o_push 24 (0)) := snd_iconst (n := 0) (z := 0) d_T_init_23 (by decide) (by unfold jrg; omega)
theorem g_T_init_24 : jSnd 1 24 (o_istore 25 1) := snd_istore_n d_T_init_24 rfl (by decide)
theorem g_T_init_25 : jSnd 1 25 (o_iload 26 1) := snd_iload_n d_T_init_25 rfl
theorem g_T_init_26 : jSnd 1 26 (o_push 27 (4)) := snd_iconst (n := 4) (z := 4) d_T_init_26 (by decide) (by unfold jrg; omega)
theorem g_T_init_27 : jSnd 1 27 (o_ic_ge 30 49) := snd_ic_ge d_T_init_27 (by decide)
theorem g_T_init_30 : jSnd 1 30 (o_aload 31 0) := snd_aload_n d_T_init_30 rfl
theorem g_T_init_31 : jSnd 1 31 (o_getR 34 13 (1)) := snd_getR (ci := 3) (k := 1) d_T_init_31 rfl tm_in3 (by decide) wd_126 rfl
theorem g_T_init_34 : jSnd 1 34 (o_iload 35 1) := snd_iload_n d_T_init_34 rfl
theorem g_T_init_35 : jSnd 1 35 (o_new 38 10 3) := snd_new (ci := 0) d_T_init_35 rfl tm_in0 tm_D0 tm_ty0 wd_125 wd_127 wd_128 rfl tm_df0
theorem g_T_init_38 : jSnd 1 38 (o_dup 39) := snd_dup d_T_init_38
theorem g_T_init_39 : jSnd 1 39 (o_call 42 78 1 1 10 true) := snd_callIN (ci := 0) (n := 0) rfl d_T_init_39 (by decide) (by decide) (by decide) wc_78 wn_44_1 wd_129 rfl rfl wd_128 (by decide +kernel) (by decide) (by decide)
theorem g_T_init_42 : jSnd 1 42 (o_aast 43 3 10) := snd_aast (t0 := 2) (ci := 0) d_T_init_42 (by decide) (by decide) rfl rfl
theorem g_T_init_43 : jSnd 1 43 (o_iinc 46 1 (1)) := snd_iinc d_T_init_43 (by decide)
theorem g_T_init_46 : jSnd 1 46 (o_goto 25) := snd_goto d_T_init_46 (by decide)
theorem g_T_init_49 : jSnd 1 49 (o_aload 50 0) := snd_aload_n d_T_init_49 rfl
theorem g_T_init_50 : jSnd 1 50 (o_new 53 12 8) := snd_new (ci := 2) d_T_init_50 rfl tm_in2 tm_D2 tm_ty2 wd_130 wd_131 wd_132 rfl tm_df2
theorem g_T_init_53 : jSnd 1 53 (o_dup 54) := snd_dup d_T_init_53
theorem g_T_init_54 : jSnd 1 54 (o_call 57 96 1 1 12 true) := snd_callIN (ci := 2) (n := 0) rfl d_T_init_54 (by decide) (by decide) (by decide) wc_96 wn_61_1 wd_133 rfl rfl wd_132 (by decide +kernel) (by decide) (by decide)
theorem g_T_init_57 : jSnd 1 57 (o_putR 60 13 (2)) := snd_putRF (ci := 3) (k := 2) d_T_init_57 rfl tm_in3 tm_D3 tm_ty3 tm_nm3 (by decide) wd_134 rfl rfl rfl (fun o => by cases o <;> exact ⟨rfl, rfl⟩) rfl
theorem g_T_init_60 : jSnd 1 60 (o_aload 61 0) := snd_aload_n d_T_init_60 rfl
theorem g_T_init_61 : jSnd 1 61 (o_new 64 12 8) := snd_new (ci := 2) d_T_init_61 rfl tm_in2 tm_D2 tm_ty2 wd_130 wd_131 wd_132 rfl tm_df2
theorem g_T_init_64 : jSnd 1 64 (o_dup 65) := snd_dup d_T_init_64
theorem g_T_init_65 : jSnd 1 65 (o_call 68 96 1 1 12 true) := snd_callIN (ci := 2) (n := 0) rfl d_T_init_65 (by decide) (by decide) (by decide) wc_96 wn_61_1 wd_133 rfl rfl wd_132 (by decide +kernel) (by decide) (by decide)
theorem g_T_init_68 : jSnd 1 68 (o_putR 71 13 (3)) := snd_putRF (ci := 3) (k := 3) d_T_init_68 rfl tm_in3 tm_D3 tm_ty3 tm_nm3 (by decide) wd_135 rfl rfl rfl (fun o => by cases o <;> exact ⟨rfl, rfl⟩) rfl
theorem g_T_init_71 : jSnd 1 71 (o_vret) := snd_vret d_T_init_71 rfl
set_option maxRecDepth 100000 in
theorem ga_T_init : jAll 1 0 tmp_T_init := ⟨g_T_init_0, g_T_init_1, snd_bad _ _, snd_bad _ _, g_T_init_4, g_T_init_5, snd_bad _ _, snd_bad _ _, g_T_init_8, g_T_init_9, snd_bad _ _, snd_bad _ _, g_T_init_12, snd_bad _ _, snd_bad _ _, g_T_init_15, g_T_init_16, g_T_init_17, snd_bad _ _, snd_bad _ _, g_T_init_20, snd_bad _ _, snd_bad _ _, g_T_init_23, g_T_init_24, g_T_init_25, g_T_init_26, g_T_init_27, snd_bad _ _, snd_bad _ _, g_T_init_30, g_T_init_31, snd_bad _ _, snd_bad _ _, g_T_init_34, g_T_init_35, snd_bad _ _, snd_bad _ _, g_T_init_38, g_T_init_39, snd_bad _ _, snd_bad _ _, g_T_init_42, g_T_init_43, snd_bad _ _, snd_bad _ _, g_T_init_46, snd_bad _ _, snd_bad _ _, g_T_init_49, g_T_init_50, snd_bad _ _, snd_bad _ _, g_T_init_53, g_T_init_54, snd_bad _ _, snd_bad _ _, g_T_init_57, snd_bad _ _, snd_bad _ _, g_T_init_60, g_T_init_61, snd_bad _ _, snd_bad _ _, g_T_init_64, g_T_init_65, snd_bad _ _, snd_bad _ _, g_T_init_68, snd_bad _ _, snd_bad _ _, g_T_init_71, trivial⟩
theorem d_T_insert_0 : decode (tm_c 2) 0 = .ok (.iload_n 3, 1) := by decide +kernel
theorem d_T_insert_1 : decode (tm_c 2) 1 = .ok (.invokestatic 33, 3) := by decide +kernel
theorem d_T_insert_4 : decode (tm_c 2) 4 = .ok (.ifCond .eq (26), 3) := by decide +kernel
theorem d_T_insert_7 : decode (tm_c 2) 7 = .ok (.aload_n 0, 1) := by decide +kernel
theorem d_T_insert_8 : decode (tm_c 2) 8 = .ok (.iload_n 1, 1) := by decide +kernel
theorem d_T_insert_9 : decode (tm_c 2) 9 = .ok (.invokevirtual 37, 3) := by decide +kernel
theorem d_T_insert_12 : decode (tm_c 2) 12 = .ok (.ifCond .eq (18), 3) := by decide +kernel
theorem d_T_insert_15 : decode (tm_c 2) 15 = .ok (.iload_n 2, 1) := by decide +kernel
theorem d_T_insert_16 : decode (tm_c 2) 16 = .ok (.ifCond .lt (14), 3) := by decide +kernel
theorem d_T_insert_19 : decode (tm_c 2) 19 = .ok (.iload_n 2, 1) := by decide +kernel
theorem d_T_insert_20 : decode (tm_c 2) 20 = .ok (.aload_n 0, 1) := by decide +kernel
theorem d_T_insert_21 : decode (tm_c 2) 21 = .ok (.getfield 26, 3) := by decide +kernel
theorem d_T_insert_24 : decode (tm_c 2) 24 = .ok (.invokevirtual 40, 3) := by decide +kernel
theorem d_T_insert_27 : decode (tm_c 2) 27 = .ok (.if_icmp .le (5), 3) := by decide +kernel
theorem d_T_insert_30 : decode (tm_c 2) 30 = .ok (.iconst (-1), 1) := by decide +kernel
theorem d_T_insert_31 : decode (tm_c 2) 31 = .ok (.ireturn, 1) := by decide +kernel
theorem d_T_insert_32 : decode (tm_c 2) 32 = .ok (.aload_n 0, 1) := by decide +kernel
theorem d_T_insert_33 : decode (tm_c 2) 33 = .ok (.iload_n 1, 1) := by decide +kernel
theorem d_T_insert_34 : decode (tm_c 2) 34 = .ok (.iconst (0), 1) := by decide +kernel
theorem d_T_insert_35 : decode (tm_c 2) 35 = .ok (.iload_n 3, 1) := by decide +kernel
theorem d_T_insert_36 : decode (tm_c 2) 36 = .ok (.iconst (0), 1) := by decide +kernel
theorem d_T_insert_37 : decode (tm_c 2) 37 = .ok (.aload_n 0, 1) := by decide +kernel
theorem d_T_insert_38 : decode (tm_c 2) 38 = .ok (.getfield 26, 3) := by decide +kernel
theorem d_T_insert_41 : decode (tm_c 2) 41 = .ok (.iload_n 2, 1) := by decide +kernel
theorem d_T_insert_42 : decode (tm_c 2) 42 = .ok (.iconst (1), 1) := by decide +kernel
theorem d_T_insert_43 : decode (tm_c 2) 43 = .ok (.isub, 1) := by decide +kernel
theorem d_T_insert_44 : decode (tm_c 2) 44 = .ok (.invokevirtual 44, 3) := by decide +kernel
theorem d_T_insert_47 : decode (tm_c 2) 47 = .ok (.iconst (0), 1) := by decide +kernel
theorem d_T_insert_48 : decode (tm_c 2) 48 = .ok (.invokevirtual 48, 3) := by decide +kernel
theorem d_T_insert_51 : decode (tm_c 2) 51 = .ok (.ireturn, 1) := by decide +kernel
theorem g_T_insert_0 : jSnd 2 0 (o_iload 1 3) := snd_iload_n d_T_insert_0 rfl
theorem g_T_insert_1 : jSnd 2 1 (o_call 4 21 1 1 0 false) := snd_callS (n := 1) d_T_insert_1 (by decide) (by decide) (by decide) wc_21 wd_136 wd_137 wd_2 (by decide +kernel) (by decide) (by decide)
theorem g_T_insert_4 : jSnd 2 4 (o_if_eq 7 30) := snd_if_eq d_T_insert_4 (by decide)
theorem g_T_insert_7 : jSnd 2 7 (o_aload 8 0) := snd_aload_n d_T_insert_7 rfl
theorem g_T_insert_8 : jSnd 2 8 (o_iload 9 1) := snd_iload_n d_T_insert_8 rfl
theorem g_T_insert_9 : jSnd 2 9 (o_call 12 24 2 3 13 false) := snd_callV (ci := 3) (n := 1) rfl d_T_insert_9 (by decide) (by decide) (by decide) wc_24 wd_138 wd_139 wd_140 wd_2 (by decide +kernel) (by decide) (by decide)
theorem g_T_insert_12 : jSnd 2 12 (o_if_eq 15 30) := snd_if_eq d_T_insert_12 (by decide)
theorem g_T_insert_15 : jSnd 2 15 (o_iload 16 2) := snd_iload_n d_T_insert_15 rfl
theorem g_T_insert_16 : jSnd 2 16 (o_if_lt 19 30) := snd_if_lt d_T_insert_16 (by decide)
theorem g_T_insert_19 : jSnd 2 19 (o_iload 20 2) := snd_iload_n d_T_insert_19 rfl
theorem g_T_insert_20 : jSnd 2 20 (o_aload 21 0) := snd_aload_n d_T_insert_20 rfl
theorem g_T_insert_21 : jSnd 2 21 (o_getR 24 13 (2)) := snd_getR (ci := 3) (k := 2) d_T_insert_21 rfl tm_in3 (by decide) wd_134 rfl
theorem g_T_insert_24 : jSnd 2 24 (o_call 27 100 1 1 12 false) := snd_callV (ci := 2) (n := 0) rfl d_T_insert_24 (by decide) (by decide) (by decide) wc_100 wd_141 wd_142 wd_143 wd_132 (by decide +kernel) (by decide) (by decide)
theorem g_T_insert_27 : jSnd 2 27 (o_ic_le 30 32) := snd_ic_le d_T_insert_27 (by decide)
theorem g_T_insert_30 : jSnd 2 30 (o_push 31 (-1)) := snd_iconst (n := -1) (z := -1) d_T_insert_30 (by decide) (by unfold jrg; omega)
theorem g_T_insert_31 : jSnd 2 31 (o_iret) := snd_iret d_T_insert_31 rfl
theorem g_T_insert_32 : jSnd 2 32 (o_aload 33 0) := snd_aload_n d_T_insert_32 rfl
theorem g_T_insert_33 : jSnd 2 33 (o_iload 34 1) := snd_iload_n d_T_insert_33 rfl
theorem g_T_insert_34 : jSnd 2 34 (o_push 35 (0)) := snd_iconst (n := 0) (z := 0) d_T_insert_34 (by decide) (by unfold jrg; omega)
theorem g_T_insert_35 : jSnd 2 35 (o_iload 36 3) := snd_iload_n d_T_insert_35 rfl
theorem g_T_insert_36 : jSnd 2 36 (o_push 37 (0)) := snd_iconst (n := 0) (z := 0) d_T_insert_36 (by decide) (by unfold jrg; omega)
theorem g_T_insert_37 : jSnd 2 37 (o_aload 38 0) := snd_aload_n d_T_insert_37 rfl
theorem g_T_insert_38 : jSnd 2 38 (o_getR 41 13 (2)) := snd_getR (ci := 3) (k := 2) d_T_insert_38 rfl tm_in3 (by decide) wd_134 rfl
theorem g_T_insert_41 : jSnd 2 41 (o_iload 42 2) := snd_iload_n d_T_insert_41 rfl
theorem g_T_insert_42 : jSnd 2 42 (o_push 43 (1)) := snd_iconst (n := 1) (z := 1) d_T_insert_42 (by decide) (by unfold jrg; omega)
theorem g_T_insert_43 : jSnd 2 43 (o_bin 44 f_sub) := snd_isub d_T_insert_43
theorem g_T_insert_44 : jSnd 2 44 (o_call 47 104 2 2 12 false) := snd_callV (ci := 2) (n := 1) rfl d_T_insert_44 (by decide) (by decide) (by decide) wc_104 wd_144 wd_145 wd_146 wd_132 (by decide +kernel) (by decide) (by decide)
theorem g_T_insert_47 : jSnd 2 47 (o_push 48 (0)) := snd_iconst (n := 0) (z := 0) d_T_insert_47 (by decide) (by unfold jrg; omega)
theorem g_T_insert_48 : jSnd 2 48 (o_call 51 25 7 10 13 false) := snd_callV (ci := 3) (n := 6) rfl d_T_insert_48 (by decide) (by decide) (by decide) wc_25 wd_147 wd_148 wd_149 wd_2 (by decide +kernel) (by decide) (by decide)
theorem g_T_insert_51 : jSnd 2 51 (o_iret) := snd_iret d_T_insert_51 rfl
set_option maxRecDepth 100000 in
theorem ga_T_insert : jAll 2 0 tmp_T_insert := ⟨g_T_insert_0, g_T_insert_1, snd_bad _ _, snd_bad _ _, g_T_insert_4, snd_bad _ _, snd_bad _ _, g_T_insert_7, g_T_insert_8, g_T_insert_9, snd_bad _ _, snd_bad _ _, g_T_insert_12, snd_bad _ _, snd_bad _ _, g_T_insert_15, g_T_insert_16, snd_bad _ _, snd_bad _ _, g_T_insert_19, g_T_insert_20, g_T_insert_21, snd_bad _ _, snd_bad _ _, g_T_insert_24, snd_bad _ _, snd_bad _ _, g_T_insert_27, snd_bad _ _, snd_bad _ _, g_T_insert_30, g_T_insert_31, g_T_insert_32, g_T_insert_33, g_T_insert_34, g_T_insert_35, g_T_insert_36, g_T_insert_37, g_T_insert_38, snd_bad _ _, snd_bad _ _, g_T_insert_41, g_T_insert_42, g_T_insert_43, g_T_insert_44, snd_bad _ _, snd_bad _ _, g_T_insert_47, g_T_insert_48, snd_bad _ _, snd_bad _ _, g_T_insert_51, trivial⟩
theorem d_T_delete_0 : decode (tm_c 3) 0 = .ok (.aload_n 0, 1) := by decide +kernel
theorem d_T_delete_1 : decode (tm_c 3) 1 = .ok (.iload_n 1, 1) := by decide +kernel
theorem d_T_delete_2 : decode (tm_c 3) 2 = .ok (.invokevirtual 37, 3) := by decide +kernel
theorem d_T_delete_5 : decode (tm_c 3) 5 = .ok (.ifCond .eq (14), 3) := by decide +kernel
theorem d_T_delete_8 : decode (tm_c 3) 8 = .ok (.aload_n 0, 1) := by decide +kernel
theorem d_T_delete_9 : decode (tm_c 3) 9 = .ok (.getfield 26, 3) := by decide +kernel
theorem d_T_delete_12 : decode (tm_c 3) 12 = .ok (.iload_n 2, 1) := by decide +kernel
theorem d_T_delete_13 : decode (tm_c 3) 13 = .ok (.invokevirtual 52, 3) := by decide +kernel
theorem d_T_delete_16 : decode (tm_c 3) 16 = .ok (.ifCond .ne (5), 3) := by decide +kernel
theorem d_T_delete_19 : decode (tm_c 3) 19 = .ok (.iconst (-1), 1) := by decide +kernel
theorem d_T_delete_20 : decode (tm_c 3) 20 = .ok (.ireturn, 1) := by decide +kernel
theorem d_T_delete_21 : decode (tm_c 3) 21 = .ok (.aload_n 0, 1) := by decide +kernel
theorem d_T_delete_22 : decode (tm_c 3) 22 = .ok (.iload_n 1, 1) := by decide +kernel
theorem d_T_delete_23 : decode (tm_c 3) 23 = .ok (.iconst (1), 1) := by decide +kernel
theorem d_T_delete_24 : decode (tm_c 3) 24 = .ok (.iconst (0), 1) := by decide +kernel
theorem d_T_delete_25 : decode (tm_c 3) 25 = .ok (.iconst (0), 1) := by decide +kernel
theorem d_T_delete_26 : decode (tm_c 3) 26 = .ok (.aload_n 0, 1) := by decide +kernel
theorem d_T_delete_27 : decode (tm_c 3) 27 = .ok (.getfield 26, 3) := by decide +kernel
theorem d_T_delete_30 : decode (tm_c 3) 30 = .ok (.iload_n 2, 1) := by decide +kernel
theorem d_T_delete_31 : decode (tm_c 3) 31 = .ok (.invokevirtual 44, 3) := by decide +kernel
theorem d_T_delete_34 : decode (tm_c 3) 34 = .ok (.iconst (0), 1) := by decide +kernel
theorem d_T_delete_35 : decode (tm_c 3) 35 = .ok (.invokevirtual 48, 3) := by decide +kernel
theorem d_T_delete_38 : decode (tm_c 3) 38 = .ok (.ireturn, 1) := by decide +kernel
theorem g_T_delete_0 : jSnd 3 0 (o_aload 1 0) := snd_aload_n d_T_delete_0 rfl
theorem g_T_delete_1 : jSnd 3 1 (o_iload 2 1) := snd_iload_n d_T_delete_1 rfl
theorem g_T_delete_2 : jSnd 3 2 (o_call 5 24 2 3 13 false) := snd_callV (ci := 3) (n := 1) rfl d_T_delete_2 (by decide) (by decide) (by decide) wc_24 wd_138 wd_139 wd_140 wd_2 (by decide +kernel) (by decide) (by decide)
theorem g_T_delete_5 : jSnd 3 5 (o_if_eq 8 19) := snd_if_eq d_T_delete_5 (by decide)
theorem g_T_delete_8 : jSnd 3 8 (o_aload 9 0) := snd_aload_n d_T_delete_8 rfl
theorem g_T_delete_9 : jSnd 3 9 (o_getR 12 13 (2)) := snd_getR (ci := 3) (k := 2) d_T_delete_9 rfl tm_in3 (by decide) wd_134 rfl
theorem g_T_delete_12 : jSnd 3 12 (o_iload 13 2) := snd_iload_n d_T_delete_12 rfl
theorem g_T_delete_13 : jSnd 3 13 (o_call 16 102 2 2 12 false) := snd_callV (ci := 2) (n := 1) rfl d_T_delete_13 (by decide) (by decide) (by decide) wc_102 wd_150 wd_151 wd_152 wd_132 (by decide +kernel) (by decide) (by decide)
theorem g_T_delete_16 : jSnd 3 16 (o_if_ne 19 21) := snd_if_ne d_T_delete_16 (by decide)
theorem g_T_delete_19 : jSnd 3 19 (o_push 20 (-1)) := snd_iconst (n := -1) (z := -1) d_T_delete_19 (by decide) (by unfold jrg; omega)
theorem g_T_delete_20 : jSnd 3 20 (o_iret) := snd_iret d_T_delete_20 rfl
theorem g_T_delete_21 : jSnd 3 21 (o_aload 22 0) := snd_aload_n d_T_delete_21 rfl
theorem g_T_delete_22 : jSnd 3 22 (o_iload 23 1) := snd_iload_n d_T_delete_22 rfl
theorem g_T_delete_23 : jSnd 3 23 (o_push 24 (1)) := snd_iconst (n := 1) (z := 1) d_T_delete_23 (by decide) (by unfold jrg; omega)
theorem g_T_delete_24 : jSnd 3 24 (o_push 25 (0)) := snd_iconst (n := 0) (z := 0) d_T_delete_24 (by decide) (by unfold jrg; omega)
theorem g_T_delete_25 : jSnd 3 25 (o_push 26 (0)) := snd_iconst (n := 0) (z := 0) d_T_delete_25 (by decide) (by unfold jrg; omega)
theorem g_T_delete_26 : jSnd 3 26 (o_aload 27 0) := snd_aload_n d_T_delete_26 rfl
theorem g_T_delete_27 : jSnd 3 27 (o_getR 30 13 (2)) := snd_getR (ci := 3) (k := 2) d_T_delete_27 rfl tm_in3 (by decide) wd_134 rfl
theorem g_T_delete_30 : jSnd 3 30 (o_iload 31 2) := snd_iload_n d_T_delete_30 rfl
theorem g_T_delete_31 : jSnd 3 31 (o_call 34 104 2 2 12 false) := snd_callV (ci := 2) (n := 1) rfl d_T_delete_31 (by decide) (by decide) (by decide) wc_104 wd_144 wd_145 wd_146 wd_132 (by decide +kernel) (by decide) (by decide)
theorem g_T_delete_34 : jSnd 3 34 (o_push 35 (0)) := snd_iconst (n := 0) (z := 0) d_T_delete_34 (by decide) (by unfold jrg; omega)
theorem g_T_delete_35 : jSnd 3 35 (o_call 38 25 7 10 13 false) := snd_callV (ci := 3) (n := 6) rfl d_T_delete_35 (by decide) (by decide) (by decide) wc_25 wd_147 wd_148 wd_149 wd_2 (by decide +kernel) (by decide) (by decide)
theorem g_T_delete_38 : jSnd 3 38 (o_iret) := snd_iret d_T_delete_38 rfl
set_option maxRecDepth 100000 in
theorem ga_T_delete : jAll 3 0 tmp_T_delete := ⟨g_T_delete_0, g_T_delete_1, g_T_delete_2, snd_bad _ _, snd_bad _ _, g_T_delete_5, snd_bad _ _, snd_bad _ _, g_T_delete_8, g_T_delete_9, snd_bad _ _, snd_bad _ _, g_T_delete_12, g_T_delete_13, snd_bad _ _, snd_bad _ _, g_T_delete_16, snd_bad _ _, snd_bad _ _, g_T_delete_19, g_T_delete_20, g_T_delete_21, g_T_delete_22, g_T_delete_23, g_T_delete_24, g_T_delete_25, g_T_delete_26, g_T_delete_27, snd_bad _ _, snd_bad _ _, g_T_delete_30, g_T_delete_31, snd_bad _ _, snd_bad _ _, g_T_delete_34, g_T_delete_35, snd_bad _ _, snd_bad _ _, g_T_delete_38, trivial⟩
theorem d_T_style_0 : decode (tm_c 4) 0 = .ok (.iload 4, 2) := by decide +kernel
theorem d_T_style_2 : decode (tm_c 4) 2 = .ok (.invokestatic 55, 3) := by decide +kernel
theorem d_T_style_5 : decode (tm_c 4) 5 = .ok (.ifCond .eq (15), 3) := by decide +kernel
theorem d_T_style_8 : decode (tm_c 4) 8 = .ok (.iload 5, 2) := by decide +kernel
theorem d_T_style_10 : decode (tm_c 4) 10 = .ok (.ifCond .lt (10), 3) := by decide +kernel
theorem d_T_style_13 : decode (tm_c 4) 13 = .ok (.iload 5, 2) := by decide +kernel
theorem d_T_style_15 : decode (tm_c 4) 15 = .ok (.bipush (9), 2) := by decide +kernel
theorem d_T_style_17 : decode (tm_c 4) 17 = .ok (.if_icmp .le (5), 3) := by decide +kernel
theorem d_T_style_20 : decode (tm_c 4) 20 = .ok (.iconst (-1), 1) := by decide +kernel
theorem d_T_style_21 : decode (tm_c 4) 21 = .ok (.ireturn, 1) := by decide +kernel
theorem d_T_style_22 : decode (tm_c 4) 22 = .ok (.aload_n 0, 1) := by decide +kernel
theorem d_T_style_23 : decode (tm_c 4) 23 = .ok (.iload_n 1, 1) := by decide +kernel
theorem d_T_style_24 : decode (tm_c 4) 24 = .ok (.invokevirtual 37, 3) := by decide +kernel
theorem d_T_style_27 : decode (tm_c 4) 27 = .ok (.ifCond .eq (15), 3) := by decide +kernel
theorem d_T_style_30 : decode (tm_c 4) 30 = .ok (.aload_n 0, 1) := by decide +kernel
theorem d_T_style_31 : decode (tm_c 4) 31 = .ok (.getfield 26, 3) := by decide +kernel
theorem d_T_style_34 : decode (tm_c 4) 34 = .ok (.iload_n 2, 1) := by decide +kernel
theorem d_T_style_35 : decode (tm_c 4) 35 = .ok (.iload_n 3, 1) := by decide +kernel
theorem d_T_style_36 : decode (tm_c 4) 36 = .ok (.invokevirtual 58, 3) := by decide +kernel
theorem d_T_style_39 : decode (tm_c 4) 39 = .ok (.ifCond .ne (5), 3) := by decide +kernel
theorem d_T_style_42 : decode (tm_c 4) 42 = .ok (.iconst (-1), 1) := by decide +kernel
theorem d_T_style_43 : decode (tm_c 4) 43 = .ok (.ireturn, 1) := by decide +kernel
theorem d_T_style_44 : decode (tm_c 4) 44 = .ok (.iload 4, 2) := by decide +kernel
theorem d_T_style_46 : decode (tm_c 4) 46 = .ok (.invokestatic 62, 3) := by decide +kernel
theorem d_T_style_49 : decode (tm_c 4) 49 = .ok (.ifCond .eq (14), 3) := by decide +kernel
theorem d_T_style_52 : decode (tm_c 4) 52 = .ok (.aload_n 0, 1) := by decide +kernel
theorem d_T_style_53 : decode (tm_c 4) 53 = .ok (.getfield 26, 3) := by decide +kernel
theorem d_T_style_56 : decode (tm_c 4) 56 = .ok (.iload_n 3, 1) := by decide +kernel
theorem d_T_style_57 : decode (tm_c 4) 57 = .ok (.invokevirtual 44, 3) := by decide +kernel
theorem d_T_style_60 : decode (tm_c 4) 60 = .ok (.goto (13), 3) := by decide +kernel
theorem d_T_style_63 : decode (tm_c 4) 63 = .ok (.aload_n 0, 1) := by decide +kernel
theorem d_T_style_64 : decode (tm_c 4) 64 = .ok (.getfield 26, 3) := by decide +kernel
theorem d_T_style_67 : decode (tm_c 4) 67 = .ok (.iload_n 3, 1) := by decide +kernel
theorem d_T_style_68 : decode (tm_c 4) 68 = .ok (.iconst (1), 1) := by decide +kernel
theorem d_T_style_69 : decode (tm_c 4) 69 = .ok (.isub, 1) := by decide +kernel
theorem d_T_style_70 : decode (tm_c 4) 70 = .ok (.invokevirtual 44, 3) := by decide +kernel
theorem d_T_style_73 : decode (tm_c 4) 73 = .ok (.istore 6, 2) := by decide +kernel
theorem d_T_style_75 : decode (tm_c 4) 75 = .ok (.aload_n 0, 1) := by decide +kernel
theorem d_T_style_76 : decode (tm_c 4) 76 = .ok (.iload_n 1, 1) := by decide +kernel
theorem d_T_style_77 : decode (tm_c 4) 77 = .ok (.iconst (2), 1) := by decide +kernel
theorem d_T_style_78 : decode (tm_c 4) 78 = .ok (.iload 4, 2) := by decide +kernel
theorem d_T_style_80 : decode (tm_c 4) 80 = .ok (.iload 5, 2) := by decide +kernel
theorem d_T_style_82 : decode (tm_c 4) 82 = .ok (.aload_n 0, 1) := by decide +kernel
theorem d_T_style_83 : decode (tm_c 4) 83 = .ok (.getfield 26, 3) := by decide +kernel
theorem d_T_style_86 : decode (tm_c 4) 86 = .ok (.iload_n 2, 1) := by decide +kernel
theorem d_T_style_87 : decode (tm_c 4) 87 = .ok (.invokevirtual 44, 3) := by decide +kernel
theorem d_T_style_90 : decode (tm_c 4) 90 = .ok (.iload 6, 2) := by decide +kernel
theorem d_T_style_92 : decode (tm_c 4) 92 = .ok (.invokevirtual 48, 3) := by decide +kernel
theorem d_T_style_95 : decode (tm_c 4) 95 = .ok (.ireturn, 1) := by decide +kernel
theorem g_T_style_0 : jSnd 4 0 (o_iload 2 4) := snd_iload d_T_style_0
theorem g_T_style_2 : jSnd 4 2 (o_call 5 22 1 1 0 false) := snd_callS (n := 1) d_T_style_2 (by decide) (by decide) (by decide) wc_22 wd_153 wd_154 wd_2 (by decide +kernel) (by decide) (by decide)
theorem g_T_style_5 : jSnd 4 5 (o_if_eq 8 20) := snd_if_eq d_T_style_5 (by decide)
theorem g_T_style_8 : jSnd 4 8 (o_iload 10 5) := snd_iload d_T_style_8
theorem g_T_style_10 : jSnd 4 10 (o_if_lt 13 20) := snd_if_lt d_T_style_10 (by decide)
theorem g_T_style_13 : jSnd 4 13 (o_iload 15 5) := snd_iload d_T_style_13
theorem g_T_style_15 : jSnd 4 15 (o_push 17 (9)) := snd_bipush (n := 9) (z := 9) d_T_style_15 (by decide) (by unfold jrg; omega)
theorem g_T_style_17 : jSnd 4 17 (o_ic_le 20 22) := snd_ic_le d_T_style_17 (by decide)
theorem g_T_style_20 : jSnd 4 20 (o_push 21 (-1)) := snd_iconst (n := -1) (z := -1) d_T_style_20 (by decide) (by unfold jrg; omega)
theorem g_T_style_21 : jSnd 4 21 (o_iret) := snd_iret d_T_style_21 rfl
theorem g_T_style_22 : jSnd 4 22 (o_aload 23 0) := snd_aload_n d_T_style_22 rfl
theorem g_T_style_23 : jSnd 4 23 (o_iload 24 1) := snd_iload_n d_T_style_23 rfl
theorem g_T_style_24 : jSnd 4 24 (o_call 27 24 2 3 13 false) := snd_callV (ci := 3) (n := 1) rfl d_T_style_24 (by decide) (by decide) (by decide) wc_24 wd_138 wd_139 wd_140 wd_2 (by decide +kernel) (by decide) (by decide)
theorem g_T_style_27 : jSnd 4 27 (o_if_eq 30 42) := snd_if_eq d_T_style_27 (by decide)
theorem g_T_style_30 : jSnd 4 30 (o_aload 31 0) := snd_aload_n d_T_style_30 rfl
theorem g_T_style_31 : jSnd 4 31 (o_getR 34 13 (2)) := snd_getR (ci := 3) (k := 2) d_T_style_31 rfl tm_in3 (by decide) wd_134 rfl
theorem g_T_style_34 : jSnd 4 34 (o_iload 35 2) := snd_iload_n d_T_style_34 rfl
theorem g_T_style_35 : jSnd 4 35 (o_iload 36 3) := snd_iload_n d_T_style_35 rfl
theorem g_T_style_36 : jSnd 4 36 (o_call 39 103 3 3 12 false) := snd_callV (ci := 2) (n := 2) rfl d_T_style_36 (by decide) (by decide) (by decide) wc_103 wd_155 wd_156 wd_157 wd_132 (by decide +kernel) (by decide) (by decide)
theorem g_T_style_39 : jSnd 4 39 (o_if_ne 42 44) := snd_if_ne d_T_style_39 (by decide)
theorem g_T_style_42 : jSnd 4 42 (o_push 43 (-1)) := snd_iconst (n := -1) (z := -1) d_T_style_42 (by decide) (by unfold jrg; omega)
theorem g_T_style_43 : jSnd 4 43 (o_iret) := snd_iret d_T_style_43 rfl
theorem g_T_style_44 : jSnd 4 44 (o_iload 46 4) := snd_iload d_T_style_44
theorem g_T_style_46 : jSnd 4 46 (o_call 49 23 1 1 0 false) := snd_callS (n := 1) d_T_style_46 (by decide) (by decide) (by decide) wc_23 wd_158 wd_159 wd_2 (by decide +kernel) (by decide) (by decide)
theorem g_T_style_49 : jSnd 4 49 (o_if_eq 52 63) := snd_if_eq d_T_style_49 (by decide)
theorem g_T_style_52 : jSnd 4 52 (o_aload 53 0) := snd_aload_n d_T_style_52 rfl
theorem g_T_style_53 : jSnd 4 53 (o_getR 56 13 (2)) := snd_getR (ci := 3) (k := 2) d_T_style_53 rfl tm_in3 (by decide) wd_134 rfl
theorem g_T_style_56 : jSnd 4 56 (o_iload 57 3) := snd_iload_n d_T_style_56 rfl
theorem g_T_style_57 : jSnd 4 57 (o_call 60 104 2 2 12 false) := snd_callV (ci := 2) (n := 1) rfl d_T_style_57 (by decide) (by decide) (by decide) wc_104 wd_144 wd_145 wd_146 wd_132 (by decide +kernel) (by decide) (by decide)
theorem g_T_style_60 : jSnd 4 60 (o_goto 73) := snd_goto d_T_style_60 (by decide)
theorem g_T_style_63 : jSnd 4 63 (o_aload 64 0) := snd_aload_n d_T_style_63 rfl
theorem g_T_style_64 : jSnd 4 64 (o_getR 67 13 (2)) := snd_getR (ci := 3) (k := 2) d_T_style_64 rfl tm_in3 (by decide) wd_134 rfl
theorem g_T_style_67 : jSnd 4 67 (o_iload 68 3) := snd_iload_n d_T_style_67 rfl
theorem g_T_style_68 : jSnd 4 68 (o_push 69 (1)) := snd_iconst (n := 1) (z := 1) d_T_style_68 (by decide) (by unfold jrg; omega)
theorem g_T_style_69 : jSnd 4 69 (o_bin 70 f_sub) := snd_isub d_T_style_69
theorem g_T_style_70 : jSnd 4 70 (o_call 73 104 2 2 12 false) := snd_callV (ci := 2) (n := 1) rfl d_T_style_70 (by decide) (by decide) (by decide) wc_104 wd_144 wd_145 wd_146 wd_132 (by decide +kernel) (by decide) (by decide)
theorem g_T_style_73 : jSnd 4 73 (o_istore 75 6) := snd_istore d_T_style_73 (by decide)
theorem g_T_style_75 : jSnd 4 75 (o_aload 76 0) := snd_aload_n d_T_style_75 rfl
theorem g_T_style_76 : jSnd 4 76 (o_iload 77 1) := snd_iload_n d_T_style_76 rfl
theorem g_T_style_77 : jSnd 4 77 (o_push 78 (2)) := snd_iconst (n := 2) (z := 2) d_T_style_77 (by decide) (by unfold jrg; omega)
theorem g_T_style_78 : jSnd 4 78 (o_iload 80 4) := snd_iload d_T_style_78
theorem g_T_style_80 : jSnd 4 80 (o_iload 82 5) := snd_iload d_T_style_80
theorem g_T_style_82 : jSnd 4 82 (o_aload 83 0) := snd_aload_n d_T_style_82 rfl
theorem g_T_style_83 : jSnd 4 83 (o_getR 86 13 (2)) := snd_getR (ci := 3) (k := 2) d_T_style_83 rfl tm_in3 (by decide) wd_134 rfl
theorem g_T_style_86 : jSnd 4 86 (o_iload 87 2) := snd_iload_n d_T_style_86 rfl
theorem g_T_style_87 : jSnd 4 87 (o_call 90 104 2 2 12 false) := snd_callV (ci := 2) (n := 1) rfl d_T_style_87 (by decide) (by decide) (by decide) wc_104 wd_144 wd_145 wd_146 wd_132 (by decide +kernel) (by decide) (by decide)
theorem g_T_style_90 : jSnd 4 90 (o_iload 92 6) := snd_iload d_T_style_90
theorem g_T_style_92 : jSnd 4 92 (o_call 95 25 7 10 13 false) := snd_callV (ci := 3) (n := 6) rfl d_T_style_92 (by decide) (by decide) (by decide) wc_25 wd_147 wd_148 wd_149 wd_2 (by decide +kernel) (by decide) (by decide)
theorem g_T_style_95 : jSnd 4 95 (o_iret) := snd_iret d_T_style_95 rfl
set_option maxRecDepth 100000 in
theorem ga_T_style : jAll 4 0 tmp_T_style := ⟨g_T_style_0, snd_bad _ _, g_T_style_2, snd_bad _ _, snd_bad _ _, g_T_style_5, snd_bad _ _, snd_bad _ _, g_T_style_8, snd_bad _ _, g_T_style_10, snd_bad _ _, snd_bad _ _, g_T_style_13, snd_bad _ _, g_T_style_15, snd_bad _ _, g_T_style_17, snd_bad _ _, snd_bad _ _, g_T_style_20, g_T_style_21, g_T_style_22, g_T_style_23, g_T_style_24, snd_bad _ _, snd_bad _ _, g_T_style_27, snd_bad _ _, snd_bad _ _, g_T_style_30, g_T_style_31, snd_bad _ _, snd_bad _ _, g_T_style_34, g_T_style_35, g_T_style_36, snd_bad _ _, snd_bad _ _, g_T_style_39, snd_bad _ _, snd_bad _ _, g_T_style_42, g_T_style_43, g_T_style_44, snd_bad _ _, g_T_style_46, snd_bad _ _, snd_bad _ _, g_T_style_49, snd_bad _ _, snd_bad _ _, g_T_style_52, g_T_style_53, snd_bad _ _, snd_bad _ _, g_T_style_56, g_T_style_57, snd_bad _ _, snd_bad _ _, g_T_style_60, snd_bad _ _, snd_bad _ _, g_T_style_63, g_T_style_64, snd_bad _ _, snd_bad _ _, g_T_style_67, g_T_style_68, g_T_style_69, g_T_style_70, snd_bad _ _, snd_bad _ _, g_T_style_73, snd_bad _ _, g_T_style_75, g_T_style_76, g_T_style_77, g_T_style_78, snd_bad _ _, g_T_style_80, snd_bad _ _, g_T_style_82, g_T_style_83, snd_bad _ _, snd_bad _ _, g_T_style_86, g_T_style_87, snd_bad _ _, snd_bad _ _, g_T_style_90, snd_bad _ _, g_T_style_92, snd_bad _ _, snd_bad _ _, g_T_style_95, trivial⟩
theorem d_T_comment_0 : decode (tm_c 5) 0 = .ok (.aload_n 0, 1) := by decide +kernel
theorem d_T_comment_1 : decode (tm_c 5) 1 = .ok (.iload_n 1, 1) := by decide +kernel
theorem d_T_comment_2 : decode (tm_c 5) 2 = .ok (.invokevirtual 37, 3) := by decide +kernel
theorem d_T_comment_5 : decode (tm_c 5) 5 = .ok (.ifCond .eq (15), 3) := by decide +kernel
theorem d_T_comment_8 : decode (tm_c 5) 8 = .ok (.aload_n 0, 1) := by decide +kernel
theorem d_T_comment_9 : decode (tm_c 5) 9 = .ok (.getfield 26, 3) := by decide +kernel
theorem d_T_comment_12 : decode (tm_c 5) 12 = .ok (.iload_n 2, 1) := by decide +kernel
theorem d_T_comment_13 : decode (tm_c 5) 13 = .ok (.iload_n 3, 1) := by decide +kernel
theorem d_T_comment_14 : decode (tm_c 5) 14 = .ok (.invokevirtual 58, 3) := by decide +kernel
theorem d_T_comment_17 : decode (tm_c 5) 17 = .ok (.ifCond .ne (5), 3) := by decide +kernel
theorem d_T_comment_20 : decode (tm_c 5) 20 = .ok (.iconst (-1), 1) := by decide +kernel
theorem d_T_comment_21 : decode (tm_c 5) 21 = .ok (.ireturn, 1) := by decide +kernel
theorem d_T_comment_22 : decode (tm_c 5) 22 = .ok (.aload_n 0, 1) := by decide +kernel
theorem d_T_comment_23 : decode (tm_c 5) 23 = .ok (.iload_n 1, 1) := by decide +kernel
theorem d_T_comment_24 : decode (tm_c 5) 24 = .ok (.iconst (3), 1) := by decide +kernel
theorem d_T_comment_25 : decode (tm_c 5) 25 = .ok (.iconst (0), 1) := by decide +kernel
theorem d_T_comment_26 : decode (tm_c 5) 26 = .ok (.iconst (0), 1) := by decide +kernel
theorem d_T_comment_27 : decode (tm_c 5) 27 = .ok (.aload_n 0, 1) := by decide +kernel
theorem d_T_comment_28 : decode (tm_c 5) 28 = .ok (.getfield 26, 3) := by decide +kernel
theorem d_T_comment_31 : decode (tm_c 5) 31 = .ok (.iload_n 2, 1) := by decide +kernel
theorem d_T_comment_32 : decode (tm_c 5) 32 = .ok (.invokevirtual 44, 3) := by decide +kernel
theorem d_T_comment_35 : decode (tm_c 5) 35 = .ok (.aload_n 0, 1) := by decide +kernel
theorem d_T_comment_36 : decode (tm_c 5) 36 = .ok (.getfield 26, 3) := by decide +kernel
theorem d_T_comment_39 : decode (tm_c 5) 39 = .ok (.iload_n 3, 1) := by decide +kernel
theorem d_T_comment_40 : decode (tm_c 5) 40 = .ok (.iconst (1), 1) := by decide +kernel
theorem d_T_comment_41 : decode (tm_c 5) 41 = .ok (.isub, 1) := by decide +kernel
theorem d_T_comment_42 : decode (tm_c 5) 42 = .ok (.invokevirtual 44, 3) := by decide +kernel
theorem d_T_comment_45 : decode (tm_c 5) 45 = .ok (.invokevirtual 48, 3) := by decide +kernel
theorem d_T_comment_48 : decode (tm_c 5) 48 = .ok (.ireturn, 1) := by decide +kernel
theorem g_T_comment_0 : jSnd 5 0 (o_aload 1 0) := snd_aload_n d_T_comment_0 rfl
theorem g_T_comment_1 : jSnd 5 1 (o_iload 2 1) := snd_iload_n d_T_comment_1 rfl
theorem g_T_comment_2 : jSnd 5 2 (o_call 5 24 2 3 13 false) := snd_callV (ci := 3) (n := 1) rfl d_T_comment_2 (by decide) (by decide) (by decide) wc_24 wd_138 wd_139 wd_140 wd_2 (by decide +kernel) (by decide) (by decide)
theorem g_T_comment_5 : jSnd 5 5 (o_if_eq 8 20) := snd_if_eq d_T_comment_5 (by decide)
theorem g_T_comment_8 : jSnd 5 8 (o_aload 9 0) := snd_aload_n d_T_comment_8 rfl
theorem g_T_comment_9 : jSnd 5 9 (o_getR 12 13 (2)) := snd_getR (ci := 3) (k := 2) d_T_comment_9 rfl tm_in3 (by decide) wd_134 rfl
theorem g_T_comment_12 : jSnd 5 12 (o_iload 13 2) := snd_iload_n d_T_comment_12 rfl
theorem g_T_comment_13 : jSnd 5 13 (o_iload 14 3) := snd_iload_n d_T_comment_13 rfl
theorem g_T_comment_14 : jSnd 5 14 (o_call 17 103 3 3 12 false) := snd_callV (ci := 2) (n := 2) rfl d_T_comment_14 (by decide) (by decide) (by decide) wc_103 wd_155 wd_156 wd_157 wd_132 (by decide +kernel) (by decide) (by decide)
theorem g_T_comment_17 : jSnd 5 17 (o_if_ne 20 22) := snd_if_ne d_T_comment_17 (by decide)
theorem g_T_comment_20 : jSnd 5 20 (o_push 21 (-1)) := snd_iconst (n := -1) (z := -1) d_T_comment_20 (by decide) (by unfold jrg; omega)
theorem g_T_comment_21 : jSnd 5 21 (o_iret) := snd_iret d_T_comment_21 rfl
theorem g_T_comment_22 : jSnd 5 22 (o_aload 23 0) := snd_aload_n d_T_comment_22 rfl
theorem g_T_comment_23 : jSnd 5 23 (o_iload 24 1) := snd_iload_n d_T_comment_23 rfl
theorem g_T_comment_24 : jSnd 5 24 (o_push 25 (3)) := snd_iconst (n := 3) (z := 3) d_T_comment_24 (by decide) (by unfold jrg; omega)
theorem g_T_comment_25 : jSnd 5 25 (o_push 26 (0)) := snd_iconst (n := 0) (z := 0) d_T_comment_25 (by decide) (by unfold jrg; omega)
theorem g_T_comment_26 : jSnd 5 26 (o_push 27 (0)) := snd_iconst (n := 0) (z := 0) d_T_comment_26 (by decide) (by unfold jrg; omega)
theorem g_T_comment_27 : jSnd 5 27 (o_aload 28 0) := snd_aload_n d_T_comment_27 rfl
theorem g_T_comment_28 : jSnd 5 28 (o_getR 31 13 (2)) := snd_getR (ci := 3) (k := 2) d_T_comment_28 rfl tm_in3 (by decide) wd_134 rfl
theorem g_T_comment_31 : jSnd 5 31 (o_iload 32 2) := snd_iload_n d_T_comment_31 rfl
theorem g_T_comment_32 : jSnd 5 32 (o_call 35 104 2 2 12 false) := snd_callV (ci := 2) (n := 1) rfl d_T_comment_32 (by decide) (by decide) (by decide) wc_104 wd_144 wd_145 wd_146 wd_132 (by decide +kernel) (by decide) (by decide)
theorem g_T_comment_35 : jSnd 5 35 (o_aload 36 0) := snd_aload_n d_T_comment_35 rfl
theorem g_T_comment_36 : jSnd 5 36 (o_getR 39 13 (2)) := snd_getR (ci := 3) (k := 2) d_T_comment_36 rfl tm_in3 (by decide) wd_134 rfl
theorem g_T_comment_39 : jSnd 5 39 (o_iload 40 3) := snd_iload_n d_T_comment_39 rfl
theorem g_T_comment_40 : jSnd 5 40 (o_push 41 (1)) := snd_iconst (n := 1) (z := 1) d_T_comment_40 (by decide) (by unfold jrg; omega)
theorem g_T_comment_41 : jSnd 5 41 (o_bin 42 f_sub) := snd_isub d_T_comment_41
theorem g_T_comment_42 : jSnd 5 42 (o_call 45 104 2 2 12 false) := snd_callV (ci := 2) (n := 1) rfl d_T_comment_42 (by decide) (by decide) (by decide) wc_104 wd_144 wd_145 wd_146 wd_132 (by decide +kernel) (by decide) (by decide)
theorem g_T_comment_45 : jSnd 5 45 (o_call 48 25 7 10 13 false) := snd_callV (ci := 3) (n := 6) rfl d_T_comment_45 (by decide) (by decide) (by decide) wc_25 wd_147 wd_148 wd_149 wd_2 (by decide +kernel) (by decide) (by decide)
theorem g_T_comment_48 : jSnd 5 48 (o_iret) := snd_iret d_T_comment_48 rfl
set_option maxRecDepth 100000 in
theorem ga_T_comment : jAll 5 0 tmp_T_comment := ⟨g_T_comment_0, g_T_comment_1, g_T_comment_2, snd_bad _ _, snd_bad _ _, g_T_comment_5, snd_bad _ _, snd_bad _ _, g_T_comment_8, g_T_comment_9, snd_bad _ _, snd_bad _ _, g_T_comment_12, g_T_comment_13, g_T_comment_14, snd_bad _ _, snd_bad _ _, g_T_comment_17, snd_bad _ _, snd_bad _ _, g_T_comment_20, g_T_comment_21, g_T_comment_22, g_T_comment_23, g_T_comment_24, g_T_comment_25, g_T_comment_26, g_T_comment_27, g_T_comment_28, snd_bad _ _, snd_bad _ _, g_T_comment_31, g_T_comment_32, snd_bad _ _, snd_bad _ _, g_T_comment_35, g_T_comment_36, snd_bad _ _, snd_bad _ _, g_T_comment_39, g_T_comment_40, g_T_comment_41, g_T_comment_42, snd_bad _ _, snd_bad _ _, g_T_comment_45, snd_bad _ _, snd_bad _ _, g_T_comment_48, trivial⟩
theorem d_T_block_0 : decode (tm_c 6) 0 = .ok (.iload_n 3, 1) := by decide +kernel
theorem d_T_block_1 : decode (tm_c 6) 1 = .ok (.ifCond .lt (17), 3) := by decide +kernel
theorem d_T_block_4 : decode (tm_c 6) 4 = .ok (.iload_n 3, 1) := by decide +kernel
theorem d_T_block_5 : decode (tm_c 6) 5 = .ok (.bipush (9), 2) := by decide +kernel
theorem d_T_block_7 : decode (tm_c 6) 7 = .ok (.if_icmp .gt (11), 3) := by decide +kernel
theorem d_T_block_10 : decode (tm_c 6) 10 = .ok (.aload_n 0, 1) := by decide +kernel
theorem d_T_block_11 : decode (tm_c 6) 11 = .ok (.iload_n 1, 1) := by decide +kernel
theorem d_T_block_12 : decode (tm_c 6) 12 = .ok (.invokevirtual 37, 3) := by decide +kernel
theorem d_T_block_15 : decode (tm_c 6) 15 = .ok (.ifCond .ne (5), 3) := by decide +kernel
theorem d_T_block_18 : decode (tm_c 6) 18 = .ok (.iconst (-1), 1) := by decide +kernel
theorem d_T_block_19 : decode (tm_c 6) 19 = .ok (.ireturn, 1) := by decide +kernel
theorem d_T_block_20 : decode (tm_c 6) 20 = .ok (.aload_n 0, 1) := by decide +kernel
theorem d_T_block_21 : decode (tm_c 6) 21 = .ok (.getfield 26, 3) := by decide +kernel
theorem d_T_block_24 : decode (tm_c 6) 24 = .ok (.iload_n 2, 1) := by decide +kernel
theorem d_T_block_25 : decode (tm_c 6) 25 = .ok (.invokevirtual 65, 3) := by decide +kernel
theorem d_T_block_28 : decode (tm_c 6) 28 = .ok (.istore 4, 2) := by decide +kernel
theorem d_T_block_30 : decode (tm_c 6) 30 = .ok (.iload 4, 2) := by decide +kernel
theorem d_T_block_32 : decode (tm_c 6) 32 = .ok (.iconst (-1), 1) := by decide +kernel
theorem d_T_block_33 : decode (tm_c 6) 33 = .ok (.if_icmp .ne (7), 3) := by decide +kernel
theorem d_T_block_36 : decode (tm_c 6) 36 = .ok (.iconst (-1), 1) := by decide +kernel
theorem d_T_block_37 : decode (tm_c 6) 37 = .ok (.goto (23), 3) := by decide +kernel
theorem d_T_block_40 : decode (tm_c 6) 40 = .ok (.aload_n 0, 1) := by decide +kernel
theorem d_T_block_41 : decode (tm_c 6) 41 = .ok (.iload_n 1, 1) := by decide +kernel
theorem d_T_block_42 : decode (tm_c 6) 42 = .ok (.iconst (4), 1) := by decide +kernel
theorem d_T_block_43 : decode (tm_c 6) 43 = .ok (.iload_n 3, 1) := by decide +kernel
theorem d_T_block_44 : decode (tm_c 6) 44 = .ok (.iconst (0), 1) := by decide +kernel
theorem d_T_block_45 : decode (tm_c 6) 45 = .ok (.aload_n 0, 1) := by decide +kernel
theorem d_T_block_46 : decode (tm_c 6) 46 = .ok (.getfield 26, 3) := by decide +kernel
theorem d_T_block_49 : decode (tm_c 6) 49 = .ok (.iload 4, 2) := by decide +kernel
theorem d_T_block_51 : decode (tm_c 6) 51 = .ok (.iconst (1), 1) := by decide +kernel
theorem d_T_block_52 : decode (tm_c 6) 52 = .ok (.isub, 1) := by decide +kernel
theorem d_T_block_53 : decode (tm_c 6) 53 = .ok (.invokevirtual 44, 3) := by decide +kernel
theorem d_T_block_56 : decode (tm_c 6) 56 = .ok (.iconst (0), 1) := by decide +kernel
theorem d_T_block_57 : decode (tm_c 6) 57 = .ok (.invokevirtual 48, 3) := by decide +kernel
theorem d_T_block_60 : decode (tm_c 6) 60 = .ok (.ireturn, 1) := by decide +kernel
theorem g_T_block_0 : jSnd 6 0 (o_iload 1 3) := snd_iload_n d_T_block_0 rfl
theorem g_T_block_1 : jSnd 6 1 (o_if_lt 4 18) := snd_if_lt d_T_block_1 (by decide)
theorem g_T_block_4 : jSnd 6 4 (o_iload 5 3) := snd_iload_n d_T_block_4 rfl
theorem g_T_block_5 : jSnd 6 5 (o_push 7 (9)) := snd_bipush (n := 9) (z := 9) d_T_block_5 (by decide) (by unfold jrg; omega)
theorem g_T_block_7 : jSnd 6 7 (o_ic_gt 10 18) := snd_ic_gt d_T_block_7 (by decide)
theorem g_T_block_10 : jSnd 6 10 (o_aload 11 0) := snd_aload_n d_T_block_10 rfl
theorem g_T_block_11 : jSnd 6 11 (o_iload 12 1) := snd_iload_n d_T_block_11 rfl
theorem g_T_block_12 : jSnd 6 12 (o_call 15 24 2 3 13 false) := snd_callV (ci := 3) (n := 1) rfl d_T_block_12 (by decide) (by decide) (by decide) wc_24 wd_138 wd_139 wd_140 wd_2 (by decide +kernel) (by decide) (by decide)
theorem g_T_block_15 : jSnd 6 15 (o_if_ne 18 20) := snd_if_ne d_T_block_15 (by decide)
theorem g_T_block_18 : jSnd 6 18 (o_push 19 (-1)) := snd_iconst (n := -1) (z := -1) d_T_block_18 (by decide) (by unfold jrg; omega)
theorem g_T_block_19 : jSnd 6 19 (o_iret) := snd_iret d_T_block_19 rfl
theorem g_T_block_20 : jSnd 6 20 (o_aload 21 0) := snd_aload_n d_T_block_20 rfl
theorem g_T_block_21 : jSnd 6 21 (o_getR 24 13 (2)) := snd_getR (ci := 3) (k := 2) d_T_block_21 rfl tm_in3 (by decide) wd_134 rfl
theorem g_T_block_24 : jSnd 6 24 (o_iload 25 2) := snd_iload_n d_T_block_24 rfl
theorem g_T_block_25 : jSnd 6 25 (o_call 28 121 2 4 12 false) := snd_callV (ci := 2) (n := 1) rfl d_T_block_25 (by decide) (by decide) (by decide) wc_121 wd_160 wd_161 wd_162 wd_132 (by decide +kernel) (by decide) (by decide)
theorem g_T_block_28 : jSnd 6 28 (o_istore 30 4) := snd_istore d_T_block_28 (by decide)
theorem g_T_block_30 : jSnd 6 30 (o_iload 32 4) := snd_iload d_T_block_30
theorem g_T_block_32 : jSnd 6 32 (o_push 33 (-1)) := snd_iconst (n := -1) (z := -1) d_T_block_32 (by decide) (by unfold jrg; omega)
theorem g_T_block_33 : jSnd 6 33 (o_ic_ne 36 40) := snd_ic_ne d_T_block_33 (by decide)
theorem g_T_block_36 : jSnd 6 36 (o_push 37 (-1)) := snd_iconst (n := -1) (z := -1) d_T_block_36 (by decide) (by unfold jrg; omega)
theorem g_T_block_37 : jSnd 6 37 (o_goto 60) := snd_goto d_T_block_37 (by decide)
theorem g_T_block_40 : jSnd 6 40 (o_aload 41 0) := snd_aload_n d_T_block_40 rfl
theorem g_T_block_41 : jSnd 6 41 (o_iload 42 1) := snd_iload_n d_T_block_41 rfl
theorem g_T_block_42 : jSnd 6 42 (o_push 43 (4)) := snd_iconst (n := 4) (z := 4) d_T_block_42 (by decide) (by unfold jrg; omega)
theorem g_T_block_43 : jSnd 6 43 (o_iload 44 3) := snd_iload_n d_T_block_43 rfl
theorem g_T_block_44 : jSnd 6 44 (o_push 45 (0)) := snd_iconst (n := 0) (z := 0) d_T_block_44 (by decide) (by unfold jrg; omega)
theorem g_T_block_45 : jSnd 6 45 (o_aload 46 0) := snd_aload_n d_T_block_45 rfl
theorem g_T_block_46 : jSnd 6 46 (o_getR 49 13 (2)) := snd_getR (ci := 3) (k := 2) d_T_block_46 rfl tm_in3 (by decide) wd_134 rfl
theorem g_T_block_49 : jSnd 6 49 (o_iload 51 4) := snd_iload d_T_block_49
theorem g_T_block_51 : jSnd 6 51 (o_push 52 (1)) := snd_iconst (n := 1) (z := 1) d_T_block_51 (by decide) (by unfold jrg; omega)
theorem g_T_block_52 : jSnd 6 52 (o_bin 53 f_sub) := snd_isub d_T_block_52
theorem g_T_block_53 : jSnd 6 53 (o_call 56 104 2 2 12 false) := snd_callV (ci := 2) (n := 1) rfl d_T_block_53 (by decide) (by decide) (by decide) wc_104 wd_144 wd_145 wd_146 wd_132 (by decide +kernel) (by decide) (by decide)
theorem g_T_block_56 : jSnd 6 56 (o_push 57 (0)) := snd_iconst (n := 0) (z := 0) d_T_block_56 (by decide) (by unfold jrg; omega)
theorem g_T_block_57 : jSnd 6 57 (o_call 60 25 7 10 13 false) := snd_callV (ci := 3) (n := 6) rfl d_T_block_57 (by decide) (by decide) (by decide) wc_25 wd_147 wd_148 wd_149 wd_2 (by decide +kernel) (by decide) (by decide)
theorem g_T_block_60 : jSnd 6 60 (o_iret) := snd_iret d_T_block_60 rfl
set_option maxRecDepth 100000 in
theorem ga_T_block : jAll 6 0 tmp_T_block := ⟨g_T_block_0, g_T_block_1, snd_bad _ _, snd_bad _ _, g_T_block_4, g_T_block_5, snd_bad _ _, g_T_block_7, snd_bad _ _, snd_bad _ _, g_T_block_10, g_T_block_11, g_T_block_12, snd_bad _ _, snd_bad _ _, g_T_block_15, snd_bad _ _, snd_bad _ _, g_T_block_18, g_T_block_19, g_T_block_20, g_T_block_21, snd_bad _ _, snd_bad _ _, g_T_block_24, g_T_block_25, snd_bad _ _, snd_bad _ _, g_T_block_28, snd_bad _ _, g_T_block_30, snd_bad _ _, g_T_block_32, g_T_block_33, snd_bad _ _, snd_bad _ _, g_T_block_36, g_T_block_37, snd_bad _ _, snd_bad _ _, g_T_block_40, g_T_block_41, g_T_block_42, g_T_block_43, g_T_block_44, g_T_block_45, g_T_block_46, snd_bad _ _, snd_bad _ _, g_T_block_49, snd_bad _ _, g_T_block_51, g_T_block_52, g_T_block_53, snd_bad _ _, snd_bad _ _, g_T_block_56, g_T_block_57, snd_bad _ _, snd_bad _ _, g_T_block_60, trivial⟩
theorem d_T_undo_0 : decode (tm_c 7) 0 = .ok (.aload_n 0, 1) := by decide +kernel
theorem d_T_undo_1 : decode (tm_c 7) 1 = .ok (.getfield 10, 3) := by decide +kernel
theorem d_T_undo_4 : decode (tm_c 7) 4 = .ok (.iload_n 2, 1) := by decide +kernel
theorem d_T_undo_5 : decode (tm_c 7) 5 = .ok (.invokevirtual 68, 3) := by decide +kernel
theorem d_T_undo_8 : decode (tm_c 7) 8 = .ok (.ifCond .eq (16), 3) := by decide +kernel
theorem d_T_undo_11 : decode (tm_c 7) 11 = .ok (.aload_n 0, 1) := by decide +kernel
theorem d_T_undo_12 : decode (tm_c 7) 12 = .ok (.getfield 10, 3) := by decide +kernel
theorem d_T_undo_15 : decode (tm_c 7) 15 = .ok (.iload_n 2, 1) := by decide +kernel
theorem d_T_undo_16 : decode (tm_c 7) 16 = .ok (.iconst (1), 1) := by decide +kernel
theorem d_T_undo_17 : decode (tm_c 7) 17 = .ok (.invokevirtual 71, 3) := by decide +kernel
theorem d_T_undo_20 : decode (tm_c 7) 20 = .ok (.iload_n 1, 1) := by decide +kernel
theorem d_T_undo_21 : decode (tm_c 7) 21 = .ok (.if_icmp .eq (5), 3) := by decide +kernel
theorem d_T_undo_24 : decode (tm_c 7) 24 = .ok (.iconst (-1), 1) := by decide +kernel
theorem d_T_undo_25 : decode (tm_c 7) 25 = .ok (.ireturn, 1) := by decide +kernel
theorem d_T_undo_26 : decode (tm_c 7) 26 = .ok (.aload_n 0, 1) := by decide +kernel
theorem d_T_undo_27 : decode (tm_c 7) 27 = .ok (.getfield 10, 3) := by decide +kernel
theorem d_T_undo_30 : decode (tm_c 7) 30 = .ok (.iload_n 2, 1) := by decide +kernel
theorem d_T_undo_31 : decode (tm_c 7) 31 = .ok (.iconst (0), 1) := by decide +kernel
theorem d_T_undo_32 : decode (tm_c 7) 32 = .ok (.invokevirtual 71, 3) := by decide +kernel
theorem d_T_undo_35 : decode (tm_c 7) 35 = .ok (.iconst (5), 1) := by decide +kernel
theorem d_T_undo_36 : decode (tm_c 7) 36 = .ok (.if_icmp .eq (14), 3) := by decide +kernel
theorem d_T_undo_39 : decode (tm_c 7) 39 = .ok (.aload_n 0, 1) := by decide +kernel
theorem d_T_undo_40 : decode (tm_c 7) 40 = .ok (.getfield 10, 3) := by decide +kernel
theorem d_T_undo_43 : decode (tm_c 7) 43 = .ok (.iload_n 2, 1) := by decide +kernel
theorem d_T_undo_44 : decode (tm_c 7) 44 = .ok (.invokevirtual 75, 3) := by decide +kernel
theorem d_T_undo_47 : decode (tm_c 7) 47 = .ok (.ifCond .eq (5), 3) := by decide +kernel
theorem d_T_undo_50 : decode (tm_c 7) 50 = .ok (.iconst (-1), 1) := by decide +kernel
theorem d_T_undo_51 : decode (tm_c 7) 51 = .ok (.ireturn, 1) := by decide +kernel
theorem d_T_undo_52 : decode (tm_c 7) 52 = .ok (.aload_n 0, 1) := by decide +kernel
theorem d_T_undo_53 : decode (tm_c 7) 53 = .ok (.iload_n 1, 1) := by decide +kernel
theorem d_T_undo_54 : decode (tm_c 7) 54 = .ok (.iconst (5), 1) := by decide +kernel
theorem d_T_undo_55 : decode (tm_c 7) 55 = .ok (.iconst (0), 1) := by decide +kernel
theorem d_T_undo_56 : decode (tm_c 7) 56 = .ok (.iconst (0), 1) := by decide +kernel
theorem d_T_undo_57 : decode (tm_c 7) 57 = .ok (.iload_n 2, 1) := by decide +kernel
theorem d_T_undo_58 : decode (tm_c 7) 58 = .ok (.iconst (0), 1) := by decide +kernel
theorem d_T_undo_59 : decode (tm_c 7) 59 = .ok (.invokevirtual 48, 3) := by decide +kernel
theorem d_T_undo_62 : decode (tm_c 7) 62 = .ok (.ireturn, 1) := by decide +kernel
theorem g_T_undo_0 : jSnd 7 0 (o_aload 1 0) := snd_aload_n d_T_undo_0 rfl
theorem g_T_undo_1 : jSnd 7 1 (o_getR 4 13 (0)) := snd_getR (ci := 3) (k := 0) d_T_undo_1 rfl tm_in3 (by decide) wd_124 rfl
theorem g_T_undo_4 : jSnd 7 4 (o_iload 5 2) := snd_iload_n d_T_undo_4 rfl
theorem g_T_undo_5 : jSnd 7 5 (o_call 8 85 2 2 11 false) := snd_callV (ci := 1) (n := 1) rfl d_T_undo_5 (by decide) (by decide) (by decide) wc_85 wd_163 wd_164 wd_165 wd_122 (by decide +kernel) (by decide) (by decide)
theorem g_T_undo_8 : jSnd 7 8 (o_if_eq 11 24) := snd_if_eq d_T_undo_8 (by decide)
theorem g_T_undo_11 : jSnd 7 11 (o_aload 12 0) := snd_aload_n d_T_undo_11 rfl
theorem g_T_undo_12 : jSnd 7 12 (o_getR 15 13 (0)) := snd_getR (ci := 3) (k := 0) d_T_undo_12 rfl tm_in3 (by decide) wd_124 rfl
theorem g_T_undo_15 : jSnd 7 15 (o_iload 16 2) := snd_iload_n d_T_undo_15 rfl
theorem g_T_undo_16 : jSnd 7 16 (o_push 17 (1)) := snd_iconst (n := 1) (z := 1) d_T_undo_16 (by decide) (by unfold jrg; omega)
theorem g_T_undo_17 : jSnd 7 17 (o_call 20 86 3 3 11 false) := snd_callV (ci := 1) (n := 2) rfl d_T_undo_17 (by decide) (by decide) (by decide) wc_86 wd_166 wd_167 wd_168 wd_122 (by decide +kernel) (by decide) (by decide)
theorem g_T_undo_20 : jSnd 7 20 (o_iload 21 1) := snd_iload_n d_T_undo_20 rfl
theorem g_T_undo_21 : jSnd 7 21 (o_ic_eq 24 26) := snd_ic_eq d_T_undo_21 (by decide)
theorem g_T_undo_24 : jSnd 7 24 (o_push 25 (-1)) := snd_iconst (n := -1) (z := -1) d_T_undo_24 (by decide) (by unfold jrg; omega)
theorem g_T_undo_25 : jSnd 7 25 (o_iret) := snd_iret d_T_undo_25 rfl
theorem g_T_undo_26 : jSnd 7 26 (o_aload 27 0) := snd_aload_n d_T_undo_26 rfl
theorem g_T_undo_27 : jSnd 7 27 (o_getR 30 13 (0)) := snd_getR (ci := 3) (k := 0) d_T_undo_27 rfl tm_in3 (by decide) wd_124 rfl
theorem g_T_undo_30 : jSnd 7 30 (o_iload 31 2) := snd_iload_n d_T_undo_30 rfl
theorem g_T_undo_31 : jSnd 7 31 (o_push 32 (0)) := snd_iconst (n := 0) (z := 0) d_T_undo_31 (by decide) (by unfold jrg; omega)
theorem g_T_undo_32 : jSnd 7 32 (o_call 35 86 3 3 11 false) := snd_callV (ci := 1) (n := 2) rfl d_T_undo_32 (by decide) (by decide) (by decide) wc_86 wd_166 wd_167 wd_168 wd_122 (by decide +kernel) (by decide) (by decide)
theorem g_T_undo_35 : jSnd 7 35 (o_push 36 (5)) := snd_iconst (n := 5) (z := 5) d_T_undo_35 (by decide) (by unfold jrg; omega)
theorem g_T_undo_36 : jSnd 7 36 (o_ic_eq 39 50) := snd_ic_eq d_T_undo_36 (by decide)
theorem g_T_undo_39 : jSnd 7 39 (o_aload 40 0) := snd_aload_n d_T_undo_39 rfl
theorem g_T_undo_40 : jSnd 7 40 (o_getR 43 13 (0)) := snd_getR (ci := 3) (k := 0) d_T_undo_40 rfl tm_in3 (by decide) wd_124 rfl
theorem g_T_undo_43 : jSnd 7 43 (o_iload 44 2) := snd_iload_n d_T_undo_43 rfl
theorem g_T_undo_44 : jSnd 7 44 (o_call 47 87 2 2 11 false) := snd_callV (ci := 1) (n := 1) rfl d_T_undo_44 (by decide) (by decide) (by decide) wc_87 wd_169 wd_170 wd_171 wd_122 (by decide +kernel) (by decide) (by decide)
theorem g_T_undo_47 : jSnd 7 47 (o_if_eq 50 52) := snd_if_eq d_T_undo_47 (by decide)
theorem g_T_undo_50 : jSnd 7 50 (o_push 51 (-1)) := snd_iconst (n := -1) (z := -1) d_T_undo_50 (by decide) (by unfold jrg; omega)
theorem g_T_undo_51 : jSnd 7 51 (o_iret) := snd_iret d_T_undo_51 rfl
theorem g_T_undo_52 : jSnd 7 52 (o_aload 53 0) := snd_aload_n d_T_undo_52 rfl
theorem g_T_undo_53 : jSnd 7 53 (o_iload 54 1) := snd_iload_n d_T_undo_53 rfl
theorem g_T_undo_54 : jSnd 7 54 (o_push 55 (5)) := snd_iconst (n := 5) (z := 5) d_T_undo_54 (by decide) (by unfold jrg; omega)
theorem g_T_undo_55 : jSnd 7 55 (o_push 56 (0)) := snd_iconst (n := 0) (z := 0) d_T_undo_55 (by decide) (by unfold jrg; omega)
theorem g_T_undo_56 : jSnd 7 56 (o_push 57 (0)) := snd_iconst (n := 0) (z := 0) d_T_undo_56 (by decide) (by unfold jrg; omega)
theorem g_T_undo_57 : jSnd 7 57 (o_iload 58 2) := snd_iload_n d_T_undo_57 rfl
theorem g_T_undo_58 : jSnd 7 58 (o_push 59 (0)) := snd_iconst (n := 0) (z := 0) d_T_undo_58 (by decide) (by unfold jrg; omega)
theorem g_T_undo_59 : jSnd 7 59 (o_call 62 25 7 10 13 false) := snd_callV (ci := 3) (n := 6) rfl d_T_undo_59 (by decide) (by decide) (by decide) wc_25 wd_147 wd_148 wd_149 wd_2 (by decide +kernel) (by decide) (by decide)
theorem g_T_undo_62 : jSnd 7 62 (o_iret) := snd_iret d_T_undo_62 rfl
set_option maxRecDepth 100000 in
theorem ga_T_undo : jAll 7 0 tmp_T_undo := ⟨g_T_undo_0, g_T_undo_1, snd_bad _ _, snd_bad _ _, g_T_undo_4, g_T_undo_5, snd_bad _ _, snd_bad _ _, g_T_undo_8, snd_bad _ _, snd_bad _ _, g_T_undo_11, g_T_undo_12, snd_bad _ _, snd_bad _ _, g_T_undo_15, g_T_undo_16, g_T_undo_17, snd_bad _ _, snd_bad _ _, g_T_undo_20, g_T_undo_21, snd_bad _ _, snd_bad _ _, g_T_undo_24, g_T_undo_25, g_T_undo_26, g_T_undo_27, snd_bad _ _, snd_bad _ _, g_T_undo_30, g_T_undo_31, g_T_undo_32, snd_bad _ _, snd_bad _ _, g_T_undo_35, g_T_undo_36, snd_bad _ _, snd_bad _ _, g_T_undo_39, g_T_undo_40, snd_bad _ _, snd_bad _ _, g_T_undo_43, g_T_undo_44, snd_bad _ _, snd_bad _ _, g_T_undo_47, snd_bad _ _, snd_bad _ _, g_T_undo_50, g_T_undo_51, g_T_undo_52, g_T_undo_53, g_T_undo_54, g_T_undo_55, g_T_undo_56, g_T_undo_57, g_T_undo_58, g_T_undo_59, snd_bad _ _, snd_bad _ _, g_T_undo_62, trivial⟩
theorem d_T_see_0 : decode (tm_c 8) 0 = .ok (.aload_n 0, 1) := by decide +kernel
theorem d_T_see_1 : decode (tm_c 8) 1 = .ok (.iload_n 1, 1) := by decide +kernel
theorem d_T_see_2 : decode (tm_c 8) 2 = .ok (.invokevirtual 78, 3) := by decide +kernel
theorem d_T_see_5 : decode (tm_c 8) 5 = .ok (.astore_n 3, 1) := by decide +kernel
theorem d_T_see_6 : decode (tm_c 8) 6 = .ok (.aload_n 3, 1) := by decide +kernel
theorem d_T_see_7 : decode (tm_c 8) 7 = .ok (.ifnull (31), 3) := by decide +kernel
theorem d_T_see_10 : decode (tm_c 8) 10 = .ok (.aload_n 0, 1) := by decide +kernel
theorem d_T_see_11 : decode (tm_c 8) 11 = .ok (.getfield 10, 3) := by decide +kernel
theorem d_T_see_14 : decode (tm_c 8) 14 = .ok (.iload_n 2, 1) := by decide +kernel
theorem d_T_see_15 : decode (tm_c 8) 15 = .ok (.invokevirtual 68, 3) := by decide +kernel
theorem d_T_see_18 : decode (tm_c 8) 18 = .ok (.ifCond .eq (20), 3) := by decide +kernel
theorem d_T_see_21 : decode (tm_c 8) 21 = .ok (.aload_n 3, 1) := by decide +kernel
theorem d_T_see_22 : decode (tm_c 8) 22 = .ok (.iload_n 2, 1) := by decide +kernel
theorem d_T_see_23 : decode (tm_c 8) 23 = .ok (.invokevirtual 82, 3) := by decide +kernel
theorem d_T_see_26 : decode (tm_c 8) 26 = .ok (.ifCond .ne (12), 3) := by decide +kernel
theorem d_T_see_29 : decode (tm_c 8) 29 = .ok (.aload_n 0, 1) := by decide +kernel
theorem d_T_see_30 : decode (tm_c 8) 30 = .ok (.aload_n 3, 1) := by decide +kernel
theorem d_T_see_31 : decode (tm_c 8) 31 = .ok (.iload_n 2, 1) := by decide +kernel
theorem d_T_see_32 : decode (tm_c 8) 32 = .ok (.invokevirtual 85, 3) := by decide +kernel
theorem d_T_see_35 : decode (tm_c 8) 35 = .ok (.ifCond .ne (5), 3) := by decide +kernel
theorem d_T_see_38 : decode (tm_c 8) 38 = .ok (.iconst (0), 1) := by decide +kernel
theorem d_T_see_39 : decode (tm_c 8) 39 = .ok (.ireturn, 1) := by decide +kernel
theorem d_T_see_40 : decode (tm_c 8) 40 = .ok (.aload_n 3, 1) := by decide +kernel
theorem d_T_see_41 : decode (tm_c 8) 41 = .ok (.iload_n 2, 1) := by decide +kernel
theorem d_T_see_42 : decode (tm_c 8) 42 = .ok (.aload_n 0, 1) := by decide +kernel
theorem d_T_see_43 : decode (tm_c 8) 43 = .ok (.getfield 10, 3) := by decide +kernel
theorem d_T_see_46 : decode (tm_c 8) 46 = .ok (.iload_n 2, 1) := by decide +kernel
theorem d_T_see_47 : decode (tm_c 8) 47 = .ok (.iconst (2), 1) := by decide +kernel
theorem d_T_see_48 : decode (tm_c 8) 48 = .ok (.invokevirtual 71, 3) := by decide +kernel
theorem d_T_see_51 : decode (tm_c 8) 51 = .ok (.invokevirtual 89, 3) := by decide +kernel
theorem d_T_see_54 : decode (tm_c 8) 54 = .ok (.iconst (1), 1) := by decide +kernel
theorem d_T_see_55 : decode (tm_c 8) 55 = .ok (.ireturn, 1) := by decide +kernel
theorem g_T_see_0 : jSnd 8 0 (o_aload 1 0) := snd_aload_n d_T_see_0 rfl
theorem g_T_see_1 : jSnd 8 1 (o_iload 2 1) := snd_iload_n d_T_see_1 rfl
theorem g_T_see_2 : jSnd 8 2 (o_call 5 20 2 2 13 false) := snd_callV (ci := 3) (n := 1) rfl d_T_see_2 (by decide) (by decide) (by decide) wc_20 wd_172 wd_173 wd_174 wd_2 (by decide +kernel) (by decide) (by decide)
theorem g_T_see_5 : jSnd 8 5 (o_astore 6 3) := snd_astore_n d_T_see_5 rfl (by decide)
theorem g_T_see_6 : jSnd 8 6 (o_aload 7 3) := snd_aload_n d_T_see_6 rfl
theorem g_T_see_7 : jSnd 8 7 (o_ifnull 10 38) := snd_ifnull d_T_see_7 (by decide)
theorem g_T_see_10 : jSnd 8 10 (o_aload 11 0) := snd_aload_n d_T_see_10 rfl
theorem g_T_see_11 : jSnd 8 11 (o_getR 14 13 (0)) := snd_getR (ci := 3) (k := 0) d_T_see_11 rfl tm_in3 (by decide) wd_124 rfl
theorem g_T_see_14 : jSnd 8 14 (o_iload 15 2) := snd_iload_n d_T_see_14 rfl
theorem g_T_see_15 : jSnd 8 15 (o_call 18 85 2 2 11 false) := snd_callV (ci := 1) (n := 1) rfl d_T_see_15 (by decide) (by decide) (by decide) wc_85 wd_163 wd_164 wd_165 wd_122 (by decide +kernel) (by decide) (by decide)
theorem g_T_see_18 : jSnd 8 18 (o_if_eq 21 38) := snd_if_eq d_T_see_18 (by decide)
theorem g_T_see_21 : jSnd 8 21 (o_aload 22 3) := snd_aload_n d_T_see_21 rfl
theorem g_T_see_22 : jSnd 8 22 (o_iload 23 2) := snd_iload_n d_T_see_22 rfl
theorem g_T_see_23 : jSnd 8 23 (o_call 26 81 2 2 10 false) := snd_callV (ci := 0) (n := 1) rfl d_T_see_23 (by decide) (by decide) (by decide) wc_81 wd_175 wd_176 wd_177 wd_128 (by decide +kernel) (by decide) (by decide)
theorem g_T_see_26 : jSnd 8 26 (o_if_ne 29 38) := snd_if_ne d_T_see_26 (by decide)
theorem g_T_see_29 : jSnd 8 29 (o_aload 30 0) := snd_aload_n d_T_see_29 rfl
theorem g_T_see_30 : jSnd 8 30 (o_aload 31 3) := snd_aload_n d_T_see_30 rfl
theorem g_T_see_31 : jSnd 8 31 (o_iload 32 2) := snd_iload_n d_T_see_31 rfl
theorem g_T_see_32 : jSnd 8 32 (o_call 35 26 3 5 13 false) := snd_callV (ci := 3) (n := 2) rfl d_T_see_32 (by decide) (by decide) (by decide) wc_26 wd_178 wd_179 wd_180 wd_2 (by decide +kernel) (by decide) (by decide)
theorem g_T_see_35 : jSnd 8 35 (o_if_ne 38 40) := snd_if_ne d_T_see_35 (by decide)
theorem g_T_see_38 : jSnd 8 38 (o_push 39 (0)) := snd_iconst (n := 0) (z := 0) d_T_see_38 (by decide) (by unfold jrg; omega)
theorem g_T_see_39 : jSnd 8 39 (o_zret) := snd_zret d_T_see_39 rfl
theorem g_T_see_40 : jSnd 8 40 (o_aload 41 3) := snd_aload_n d_T_see_40 rfl
theorem g_T_see_41 : jSnd 8 41 (o_iload 42 2) := snd_iload_n d_T_see_41 rfl
theorem g_T_see_42 : jSnd 8 42 (o_aload 43 0) := snd_aload_n d_T_see_42 rfl
theorem g_T_see_43 : jSnd 8 43 (o_getR 46 13 (0)) := snd_getR (ci := 3) (k := 0) d_T_see_43 rfl tm_in3 (by decide) wd_124 rfl
theorem g_T_see_46 : jSnd 8 46 (o_iload 47 2) := snd_iload_n d_T_see_46 rfl
theorem g_T_see_47 : jSnd 8 47 (o_push 48 (2)) := snd_iconst (n := 2) (z := 2) d_T_see_47 (by decide) (by unfold jrg; omega)
theorem g_T_see_48 : jSnd 8 48 (o_call 51 86 3 3 11 false) := snd_callV (ci := 1) (n := 2) rfl d_T_see_48 (by decide) (by decide) (by decide) wc_86 wd_166 wd_167 wd_168 wd_122 (by decide +kernel) (by decide) (by decide)
theorem g_T_see_51 : jSnd 8 51 (o_call 54 82 3 3 10 true) := snd_callV (ci := 0) (n := 2) rfl d_T_see_51 (by decide) (by decide) (by decide) wc_82 wd_181 wd_182 wd_183 wd_128 (by decide +kernel) (by decide) (by decide)
theorem g_T_see_54 : jSnd 8 54 (o_push 55 (1)) := snd_iconst (n := 1) (z := 1) d_T_see_54 (by decide) (by unfold jrg; omega)
theorem g_T_see_55 : jSnd 8 55 (o_zret) := snd_zret d_T_see_55 rfl
set_option maxRecDepth 100000 in
theorem ga_T_see : jAll 8 0 tmp_T_see := ⟨g_T_see_0, g_T_see_1, g_T_see_2, snd_bad _ _, snd_bad _ _, g_T_see_5, g_T_see_6, g_T_see_7, snd_bad _ _, snd_bad _ _, g_T_see_10, g_T_see_11, snd_bad _ _, snd_bad _ _, g_T_see_14, g_T_see_15, snd_bad _ _, snd_bad _ _, g_T_see_18, snd_bad _ _, snd_bad _ _, g_T_see_21, g_T_see_22, g_T_see_23, snd_bad _ _, snd_bad _ _, g_T_see_26, snd_bad _ _, snd_bad _ _, g_T_see_29, g_T_see_30, g_T_see_31, g_T_see_32, snd_bad _ _, snd_bad _ _, g_T_see_35, snd_bad _ _, snd_bad _ _, g_T_see_38, g_T_see_39, g_T_see_40, g_T_see_41, g_T_see_42, g_T_see_43, snd_bad _ _, snd_bad _ _, g_T_see_46, g_T_see_47, g_T_see_48, snd_bad _ _, snd_bad _ _, g_T_see_51, snd_bad _ _, snd_bad _ _, g_T_see_54, g_T_see_55, trivial⟩
