theorem zd_L_law_200 : decode code 200 = .ok (.iadd, 1) := by decide +kernel
theorem zd_L_law_201 : decode code 201 = .ok (.iaload, 1) := by decide +kernel
theorem zd_L_law_202 : decode code 202 = .ok (.invokevirtual 23, 3) := by decide +kernel
theorem zd_L_law_205 : decode code 205 = .ok (.aload_n 2, 1) := by decide +kernel
theorem zd_L_law_206 : decode code 206 = .ok (.aload_n 0, 1) := by decide +kernel
theorem zd_L_law_207 : decode code 207 = .ok (.iload_n 3, 1) := by decide +kernel
theorem zd_L_law_208 : decode code 208 = .ok (.iconst 1, 1) := by decide +kernel
theorem zd_L_law_209 : decode code 209 = .ok (.iadd, 1) := by decide +kernel
theorem zd_L_law_210 : decode code 210 = .ok (.iaload, 1) := by decide +kernel
theorem zd_L_law_211 : decode code 211 = .ok (.aload_n 0, 1) := by decide +kernel
theorem zd_L_law_212 : decode code 212 = .ok (.iload_n 3, 1) := by decide +kernel
theorem zd_L_law_213 : decode code 213 = .ok (.iconst 2, 1) := by decide +kernel
theorem zd_L_law_214 : decode code 214 = .ok (.iadd, 1) := by decide +kernel
theorem zd_L_law_215 : decode code 215 = .ok (.iaload, 1) := by decide +kernel
theorem zd_L_law_216 : decode code 216 = .ok (.aload_n 0, 1) := by decide +kernel
theorem zd_L_law_217 : decode code 217 = .ok (.iload_n 3, 1) := by decide +kernel
theorem zd_L_law_218 : decode code 218 = .ok (.iconst 3, 1) := by decide +kernel
theorem zd_L_law_219 : decode code 219 = .ok (.iadd, 1) := by decide +kernel
theorem zd_L_law_220 : decode code 220 = .ok (.iaload, 1) := by decide +kernel
theorem zd_L_law_221 : decode code 221 = .ok (.invokevirtual 27, 3) := by decide +kernel
theorem zd_L_law_224 : decode code 224 = .ok (.if_icmp .eq 326, 3) := by decide +kernel
theorem zd_L_law_227 : decode code 227 = .ok (.iconst 0, 1) := by decide +kernel
theorem zd_L_law_228 : decode code 228 = .ok (.ireturn, 1) := by decide +kernel
theorem zd_L_law_229 : decode code 229 = .ok (.aload_n 1, 1) := by decide +kernel
theorem zd_L_law_230 : decode code 230 = .ok (.aload_n 0, 1) := by decide +kernel
theorem zd_L_law_231 : decode code 231 = .ok (.iload_n 3, 1) := by decide +kernel
theorem zd_L_law_232 : decode code 232 = .ok (.iconst 1, 1) := by decide +kernel
theorem zd_L_law_233 : decode code 233 = .ok (.iadd, 1) := by decide +kernel
theorem zd_L_law_234 : decode code 234 = .ok (.iaload, 1) := by decide +kernel
theorem zd_L_law_235 : decode code 235 = .ok (.aload_n 0, 1) := by decide +kernel
theorem zd_L_law_236 : decode code 236 = .ok (.iload_n 3, 1) := by decide +kernel
theorem zd_L_law_237 : decode code 237 = .ok (.iconst 2, 1) := by decide +kernel
theorem zd_L_law_238 : decode code 238 = .ok (.iadd, 1) := by decide +kernel
theorem zd_L_law_239 : decode code 239 = .ok (.iaload, 1) := by decide +kernel
theorem zd_L_law_240 : decode code 240 = .ok (.ifCond .eq 7, 3) := by decide +kernel
theorem zd_L_law_243 : decode code 243 = .ok (.iconst 1, 1) := by decide +kernel
theorem zd_L_law_244 : decode code 244 = .ok (.goto 4, 3) := by decide +kernel
theorem zd_L_law_247 : decode code 247 = .ok (.iconst 0, 1) := by decide +kernel
theorem zd_L_law_248 : decode code 248 = .ok (.invokevirtual 28, 3) := by decide +kernel
theorem zd_L_law_251 : decode code 251 = .ok (.aload_n 2, 1) := by decide +kernel
theorem zd_L_law_252 : decode code 252 = .ok (.aload_n 0, 1) := by decide +kernel
theorem zd_L_law_253 : decode code 253 = .ok (.iload_n 3, 1) := by decide +kernel
theorem zd_L_law_254 : decode code 254 = .ok (.iconst 1, 1) := by decide +kernel
theorem zd_L_law_255 : decode code 255 = .ok (.iadd, 1) := by decide +kernel
theorem zd_L_law_256 : decode code 256 = .ok (.iaload, 1) := by decide +kernel
theorem zd_L_law_257 : decode code 257 = .ok (.aload_n 0, 1) := by decide +kernel
theorem zd_L_law_258 : decode code 258 = .ok (.iload_n 3, 1) := by decide +kernel
theorem zd_L_law_259 : decode code 259 = .ok (.iconst 2, 1) := by decide +kernel
theorem zd_L_law_260 : decode code 260 = .ok (.iadd, 1) := by decide +kernel
theorem zd_L_law_261 : decode code 261 = .ok (.iaload, 1) := by decide +kernel
theorem zd_L_law_262 : decode code 262 = .ok (.ifCond .eq 7, 3) := by decide +kernel
theorem zd_L_law_265 : decode code 265 = .ok (.iconst 1, 1) := by decide +kernel
theorem zd_L_law_266 : decode code 266 = .ok (.goto 4, 3) := by decide +kernel
theorem zd_L_law_269 : decode code 269 = .ok (.iconst 0, 1) := by decide +kernel
theorem zd_L_law_270 : decode code 270 = .ok (.invokevirtual 32, 3) := by decide +kernel
theorem zd_L_law_273 : decode code 273 = .ok (.if_icmp .eq 277, 3) := by decide +kernel
theorem zd_L_law_276 : decode code 276 = .ok (.iconst 0, 1) := by decide +kernel
theorem zd_L_law_277 : decode code 277 = .ok (.ireturn, 1) := by decide +kernel
theorem zd_L_law_278 : decode code 278 = .ok (.aload_n 1, 1) := by decide +kernel
theorem zd_L_law_279 : decode code 279 = .ok (.aload_n 0, 1) := by decide +kernel
theorem zd_L_law_280 : decode code 280 = .ok (.iload_n 3, 1) := by decide +kernel
theorem zd_L_law_281 : decode code 281 = .ok (.iconst 1, 1) := by decide +kernel
theorem zd_L_law_282 : decode code 282 = .ok (.iadd, 1) := by decide +kernel
theorem zd_L_law_283 : decode code 283 = .ok (.iaload, 1) := by decide +kernel
theorem zd_L_law_284 : decode code 284 = .ok (.invokevirtual 33, 3) := by decide +kernel
theorem zd_L_law_287 : decode code 287 = .ok (.aload_n 2, 1) := by decide +kernel
theorem zd_L_law_288 : decode code 288 = .ok (.aload_n 0, 1) := by decide +kernel
theorem zd_L_law_289 : decode code 289 = .ok (.iload_n 3, 1) := by decide +kernel
theorem zd_L_law_290 : decode code 290 = .ok (.iconst 1, 1) := by decide +kernel
theorem zd_L_law_291 : decode code 291 = .ok (.iadd, 1) := by decide +kernel
theorem zd_L_law_292 : decode code 292 = .ok (.iaload, 1) := by decide +kernel
theorem zd_L_law_293 : decode code 293 = .ok (.invokevirtual 37, 3) := by decide +kernel
theorem zd_L_law_296 : decode code 296 = .ok (.if_icmp .eq 254, 3) := by decide +kernel
theorem zd_L_law_299 : decode code 299 = .ok (.iconst 0, 1) := by decide +kernel
theorem zd_L_law_300 : decode code 300 = .ok (.ireturn, 1) := by decide +kernel
theorem zd_L_law_301 : decode code 301 = .ok (.aload_n 1, 1) := by decide +kernel
theorem zd_L_law_302 : decode code 302 = .ok (.aload_n 0, 1) := by decide +kernel
theorem zd_L_law_303 : decode code 303 = .ok (.iload_n 3, 1) := by decide +kernel
theorem zd_L_law_304 : decode code 304 = .ok (.iconst 1, 1) := by decide +kernel
theorem zd_L_law_305 : decode code 305 = .ok (.iadd, 1) := by decide +kernel
theorem zd_L_law_306 : decode code 306 = .ok (.iaload, 1) := by decide +kernel
theorem zd_L_law_307 : decode code 307 = .ok (.aload_n 0, 1) := by decide +kernel
theorem zd_L_law_308 : decode code 308 = .ok (.iload_n 3, 1) := by decide +kernel
theorem zd_L_law_309 : decode code 309 = .ok (.iconst 2, 1) := by decide +kernel
theorem zd_L_law_310 : decode code 310 = .ok (.iadd, 1) := by decide +kernel
theorem zd_L_law_311 : decode code 311 = .ok (.iaload, 1) := by decide +kernel
theorem zd_L_law_312 : decode code 312 = .ok (.invokevirtual 38, 3) := by decide +kernel
theorem zd_L_law_315 : decode code 315 = .ok (.aload_n 2, 1) := by decide +kernel
theorem zd_L_law_316 : decode code 316 = .ok (.aload_n 0, 1) := by decide +kernel
theorem zd_L_law_317 : decode code 317 = .ok (.iload_n 3, 1) := by decide +kernel
