theorem de_W_law_192 : decode bc_W_law 192 = .ok (.invokevirtual 18, 3) := by decide +kernel
theorem de_W_law_195 : decode bc_W_law 195 = .ok (.aload_n 2, 1) := by decide +kernel
theorem de_W_law_196 : decode bc_W_law 196 = .ok (.aload_n 0, 1) := by decide +kernel
theorem de_W_law_197 : decode bc_W_law 197 = .ok (.iload_n 3, 1) := by decide +kernel
theorem de_W_law_198 : decode bc_W_law 198 = .ok (.iconst 1, 1) := by decide +kernel
theorem de_W_law_199 : decode bc_W_law 199 = .ok (.iadd, 1) := by decide +kernel
theorem de_W_law_200 : decode bc_W_law 200 = .ok (.iaload, 1) := by decide +kernel
theorem de_W_law_201 : decode bc_W_law 201 = .ok (.aload_n 0, 1) := by decide +kernel
theorem de_W_law_202 : decode bc_W_law 202 = .ok (.iload_n 3, 1) := by decide +kernel
theorem de_W_law_203 : decode bc_W_law 203 = .ok (.iconst 2, 1) := by decide +kernel
theorem de_W_law_204 : decode bc_W_law 204 = .ok (.iadd, 1) := by decide +kernel
theorem de_W_law_205 : decode bc_W_law 205 = .ok (.iaload, 1) := by decide +kernel
theorem de_W_law_206 : decode bc_W_law 206 = .ok (.aload_n 0, 1) := by decide +kernel
theorem de_W_law_207 : decode bc_W_law 207 = .ok (.iload_n 3, 1) := by decide +kernel
theorem de_W_law_208 : decode bc_W_law 208 = .ok (.iconst 3, 1) := by decide +kernel
theorem de_W_law_209 : decode bc_W_law 209 = .ok (.iadd, 1) := by decide +kernel
theorem de_W_law_210 : decode bc_W_law 210 = .ok (.iaload, 1) := by decide +kernel
theorem de_W_law_211 : decode bc_W_law 211 = .ok (.aload_n 0, 1) := by decide +kernel
theorem de_W_law_212 : decode bc_W_law 212 = .ok (.iload_n 3, 1) := by decide +kernel
theorem de_W_law_213 : decode bc_W_law 213 = .ok (.iconst 4, 1) := by decide +kernel
theorem de_W_law_214 : decode bc_W_law 214 = .ok (.iadd, 1) := by decide +kernel
theorem de_W_law_215 : decode bc_W_law 215 = .ok (.iaload, 1) := by decide +kernel
theorem de_W_law_216 : decode bc_W_law 216 = .ok (.invokevirtual 22, 3) := by decide +kernel
theorem de_W_law_219 : decode bc_W_law 219 = .ok (.if_icmp .eq 509, 3) := by decide +kernel
theorem de_W_law_222 : decode bc_W_law 222 = .ok (.iconst 0, 1) := by decide +kernel
theorem de_W_law_223 : decode bc_W_law 223 = .ok (.ireturn, 1) := by decide +kernel
theorem de_W_law_224 : decode bc_W_law 224 = .ok (.aload_n 1, 1) := by decide +kernel
theorem de_W_law_225 : decode bc_W_law 225 = .ok (.aload_n 0, 1) := by decide +kernel
theorem de_W_law_226 : decode bc_W_law 226 = .ok (.iload_n 3, 1) := by decide +kernel
theorem de_W_law_227 : decode bc_W_law 227 = .ok (.iconst 1, 1) := by decide +kernel
theorem de_W_law_228 : decode bc_W_law 228 = .ok (.iadd, 1) := by decide +kernel
theorem de_W_law_229 : decode bc_W_law 229 = .ok (.iaload, 1) := by decide +kernel
theorem de_W_law_230 : decode bc_W_law 230 = .ok (.aload_n 0, 1) := by decide +kernel
theorem de_W_law_231 : decode bc_W_law 231 = .ok (.iload_n 3, 1) := by decide +kernel
theorem de_W_law_232 : decode bc_W_law 232 = .ok (.iconst 2, 1) := by decide +kernel
theorem de_W_law_233 : decode bc_W_law 233 = .ok (.iadd, 1) := by decide +kernel
theorem de_W_law_234 : decode bc_W_law 234 = .ok (.iaload, 1) := by decide +kernel
theorem de_W_law_235 : decode bc_W_law 235 = .ok (.aload_n 0, 1) := by decide +kernel
theorem de_W_law_236 : decode bc_W_law 236 = .ok (.iload_n 3, 1) := by decide +kernel
theorem de_W_law_237 : decode bc_W_law 237 = .ok (.iconst 3, 1) := by decide +kernel
theorem de_W_law_238 : decode bc_W_law 238 = .ok (.iadd, 1) := by decide +kernel
theorem de_W_law_239 : decode bc_W_law 239 = .ok (.iaload, 1) := by decide +kernel
theorem de_W_law_240 : decode bc_W_law 240 = .ok (.ifCond .eq 7, 3) := by decide +kernel
theorem de_W_law_243 : decode bc_W_law 243 = .ok (.iconst 1, 1) := by decide +kernel
theorem de_W_law_244 : decode bc_W_law 244 = .ok (.goto 4, 3) := by decide +kernel
theorem de_W_law_247 : decode bc_W_law 247 = .ok (.iconst 0, 1) := by decide +kernel
theorem de_W_law_248 : decode bc_W_law 248 = .ok (.invokevirtual 23, 3) := by decide +kernel
theorem de_W_law_251 : decode bc_W_law 251 = .ok (.aload_n 2, 1) := by decide +kernel
theorem de_W_law_252 : decode bc_W_law 252 = .ok (.aload_n 0, 1) := by decide +kernel
theorem de_W_law_253 : decode bc_W_law 253 = .ok (.iload_n 3, 1) := by decide +kernel
theorem de_W_law_254 : decode bc_W_law 254 = .ok (.iconst 1, 1) := by decide +kernel
theorem de_W_law_255 : decode bc_W_law 255 = .ok (.iadd, 1) := by decide +kernel
theorem de_W_law_256 : decode bc_W_law 256 = .ok (.iaload, 1) := by decide +kernel
theorem de_W_law_257 : decode bc_W_law 257 = .ok (.aload_n 0, 1) := by decide +kernel
theorem de_W_law_258 : decode bc_W_law 258 = .ok (.iload_n 3, 1) := by decide +kernel
theorem de_W_law_259 : decode bc_W_law 259 = .ok (.iconst 2, 1) := by decide +kernel
theorem de_W_law_260 : decode bc_W_law 260 = .ok (.iadd, 1) := by decide +kernel
theorem de_W_law_261 : decode bc_W_law 261 = .ok (.iaload, 1) := by decide +kernel
theorem de_W_law_262 : decode bc_W_law 262 = .ok (.aload_n 0, 1) := by decide +kernel
theorem de_W_law_263 : decode bc_W_law 263 = .ok (.iload_n 3, 1) := by decide +kernel
theorem de_W_law_264 : decode bc_W_law 264 = .ok (.iconst 3, 1) := by decide +kernel
theorem de_W_law_265 : decode bc_W_law 265 = .ok (.iadd, 1) := by decide +kernel
theorem de_W_law_266 : decode bc_W_law 266 = .ok (.iaload, 1) := by decide +kernel
theorem de_W_law_267 : decode bc_W_law 267 = .ok (.ifCond .eq 7, 3) := by decide +kernel
theorem de_W_law_270 : decode bc_W_law 270 = .ok (.iconst 1, 1) := by decide +kernel
theorem de_W_law_271 : decode bc_W_law 271 = .ok (.goto 4, 3) := by decide +kernel
theorem de_W_law_274 : decode bc_W_law 274 = .ok (.iconst 0, 1) := by decide +kernel
theorem de_W_law_275 : decode bc_W_law 275 = .ok (.invokevirtual 27, 3) := by decide +kernel
theorem de_W_law_278 : decode bc_W_law 278 = .ok (.if_icmp .eq 450, 3) := by decide +kernel
theorem de_W_law_281 : decode bc_W_law 281 = .ok (.iconst 0, 1) := by decide +kernel
theorem de_W_law_282 : decode bc_W_law 282 = .ok (.ireturn, 1) := by decide +kernel
theorem de_W_law_283 : decode bc_W_law 283 = .ok (.aload_n 1, 1) := by decide +kernel
theorem de_W_law_284 : decode bc_W_law 284 = .ok (.aload_n 0, 1) := by decide +kernel
theorem de_W_law_285 : decode bc_W_law 285 = .ok (.iload_n 3, 1) := by decide +kernel
theorem de_W_law_286 : decode bc_W_law 286 = .ok (.iconst 1, 1) := by decide +kernel
theorem de_W_law_287 : decode bc_W_law 287 = .ok (.iadd, 1) := by decide +kernel
theorem de_W_law_288 : decode bc_W_law 288 = .ok (.iaload, 1) := by decide +kernel
theorem de_W_law_289 : decode bc_W_law 289 = .ok (.aload_n 0, 1) := by decide +kernel
theorem de_W_law_290 : decode bc_W_law 290 = .ok (.iload_n 3, 1) := by decide +kernel
theorem de_W_law_291 : decode bc_W_law 291 = .ok (.iconst 2, 1) := by decide +kernel
