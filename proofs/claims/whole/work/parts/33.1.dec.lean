theorem d_Law_law_179 : decode code 179 = .ok (.iadd, 1) := by decide +kernel
theorem d_Law_law_180 : decode code 180 = .ok (.iaload, 1) := by decide +kernel
theorem d_Law_law_181 : decode code 181 = .ok (.aload_n 0, 1) := by decide +kernel
theorem d_Law_law_182 : decode code 182 = .ok (.iload_n 3, 1) := by decide +kernel
theorem d_Law_law_183 : decode code 183 = .ok (.iconst 3, 1) := by decide +kernel
theorem d_Law_law_184 : decode code 184 = .ok (.iadd, 1) := by decide +kernel
theorem d_Law_law_185 : decode code 185 = .ok (.iaload, 1) := by decide +kernel
theorem d_Law_law_186 : decode code 186 = .ok (.invokevirtual 22, 3) := by decide +kernel
theorem d_Law_law_189 : decode code 189 = .ok (.if_icmp .eq 256, 3) := by decide +kernel
theorem d_Law_law_192 : decode code 192 = .ok (.iconst 0, 1) := by decide +kernel
theorem d_Law_law_193 : decode code 193 = .ok (.ireturn, 1) := by decide +kernel
theorem d_Law_law_194 : decode code 194 = .ok (.aload_n 1, 1) := by decide +kernel
theorem d_Law_law_195 : decode code 195 = .ok (.aload_n 0, 1) := by decide +kernel
theorem d_Law_law_196 : decode code 196 = .ok (.iload_n 3, 1) := by decide +kernel
theorem d_Law_law_197 : decode code 197 = .ok (.iconst 1, 1) := by decide +kernel
theorem d_Law_law_198 : decode code 198 = .ok (.iadd, 1) := by decide +kernel
theorem d_Law_law_199 : decode code 199 = .ok (.iaload, 1) := by decide +kernel
theorem d_Law_law_200 : decode code 200 = .ok (.aload_n 0, 1) := by decide +kernel
theorem d_Law_law_201 : decode code 201 = .ok (.iload_n 3, 1) := by decide +kernel
theorem d_Law_law_202 : decode code 202 = .ok (.iconst 2, 1) := by decide +kernel
theorem d_Law_law_203 : decode code 203 = .ok (.iadd, 1) := by decide +kernel
theorem d_Law_law_204 : decode code 204 = .ok (.iaload, 1) := by decide +kernel
theorem d_Law_law_205 : decode code 205 = .ok (.aload_n 0, 1) := by decide +kernel
theorem d_Law_law_206 : decode code 206 = .ok (.iload_n 3, 1) := by decide +kernel
theorem d_Law_law_207 : decode code 207 = .ok (.iconst 3, 1) := by decide +kernel
theorem d_Law_law_208 : decode code 208 = .ok (.iadd, 1) := by decide +kernel
theorem d_Law_law_209 : decode code 209 = .ok (.iaload, 1) := by decide +kernel
theorem d_Law_law_210 : decode code 210 = .ok (.aload_n 0, 1) := by decide +kernel
theorem d_Law_law_211 : decode code 211 = .ok (.iload_n 3, 1) := by decide +kernel
theorem d_Law_law_212 : decode code 212 = .ok (.iconst 4, 1) := by decide +kernel
theorem d_Law_law_213 : decode code 213 = .ok (.iadd, 1) := by decide +kernel
theorem d_Law_law_214 : decode code 214 = .ok (.iaload, 1) := by decide +kernel
theorem d_Law_law_215 : decode code 215 = .ok (.invokevirtual 23, 3) := by decide +kernel
theorem d_Law_law_218 : decode code 218 = .ok (.aload_n 2, 1) := by decide +kernel
theorem d_Law_law_219 : decode code 219 = .ok (.aload_n 0, 1) := by decide +kernel
theorem d_Law_law_220 : decode code 220 = .ok (.iload_n 3, 1) := by decide +kernel
theorem d_Law_law_221 : decode code 221 = .ok (.iconst 1, 1) := by decide +kernel
theorem d_Law_law_222 : decode code 222 = .ok (.iadd, 1) := by decide +kernel
theorem d_Law_law_223 : decode code 223 = .ok (.iaload, 1) := by decide +kernel
theorem d_Law_law_224 : decode code 224 = .ok (.aload_n 0, 1) := by decide +kernel
theorem d_Law_law_225 : decode code 225 = .ok (.iload_n 3, 1) := by decide +kernel
theorem d_Law_law_226 : decode code 226 = .ok (.iconst 2, 1) := by decide +kernel
theorem d_Law_law_227 : decode code 227 = .ok (.iadd, 1) := by decide +kernel
theorem d_Law_law_228 : decode code 228 = .ok (.iaload, 1) := by decide +kernel
theorem d_Law_law_229 : decode code 229 = .ok (.aload_n 0, 1) := by decide +kernel
theorem d_Law_law_230 : decode code 230 = .ok (.iload_n 3, 1) := by decide +kernel
theorem d_Law_law_231 : decode code 231 = .ok (.iconst 3, 1) := by decide +kernel
theorem d_Law_law_232 : decode code 232 = .ok (.iadd, 1) := by decide +kernel
theorem d_Law_law_233 : decode code 233 = .ok (.iaload, 1) := by decide +kernel
theorem d_Law_law_234 : decode code 234 = .ok (.aload_n 0, 1) := by decide +kernel
theorem d_Law_law_235 : decode code 235 = .ok (.iload_n 3, 1) := by decide +kernel
theorem d_Law_law_236 : decode code 236 = .ok (.iconst 4, 1) := by decide +kernel
theorem d_Law_law_237 : decode code 237 = .ok (.iadd, 1) := by decide +kernel
theorem d_Law_law_238 : decode code 238 = .ok (.iaload, 1) := by decide +kernel
theorem d_Law_law_239 : decode code 239 = .ok (.invokevirtual 27, 3) := by decide +kernel
theorem d_Law_law_242 : decode code 242 = .ok (.if_icmp .eq 203, 3) := by decide +kernel
theorem d_Law_law_245 : decode code 245 = .ok (.iconst 0, 1) := by decide +kernel
theorem d_Law_law_246 : decode code 246 = .ok (.ireturn, 1) := by decide +kernel
theorem d_Law_law_247 : decode code 247 = .ok (.aload_n 1, 1) := by decide +kernel
theorem d_Law_law_248 : decode code 248 = .ok (.aload_n 0, 1) := by decide +kernel
theorem d_Law_law_249 : decode code 249 = .ok (.iload_n 3, 1) := by decide +kernel
theorem d_Law_law_250 : decode code 250 = .ok (.iconst 1, 1) := by decide +kernel
theorem d_Law_law_251 : decode code 251 = .ok (.iadd, 1) := by decide +kernel
theorem d_Law_law_252 : decode code 252 = .ok (.iaload, 1) := by decide +kernel
theorem d_Law_law_253 : decode code 253 = .ok (.aload_n 0, 1) := by decide +kernel
theorem d_Law_law_254 : decode code 254 = .ok (.iload_n 3, 1) := by decide +kernel
theorem d_Law_law_255 : decode code 255 = .ok (.iconst 2, 1) := by decide +kernel
theorem d_Law_law_256 : decode code 256 = .ok (.iadd, 1) := by decide +kernel
theorem d_Law_law_257 : decode code 257 = .ok (.iaload, 1) := by decide +kernel
theorem d_Law_law_258 : decode code 258 = .ok (.aload_n 0, 1) := by decide +kernel
theorem d_Law_law_259 : decode code 259 = .ok (.iload_n 3, 1) := by decide +kernel
theorem d_Law_law_260 : decode code 260 = .ok (.iconst 3, 1) := by decide +kernel
theorem d_Law_law_261 : decode code 261 = .ok (.iadd, 1) := by decide +kernel
theorem d_Law_law_262 : decode code 262 = .ok (.iaload, 1) := by decide +kernel
theorem d_Law_law_263 : decode code 263 = .ok (.invokevirtual 28, 3) := by decide +kernel
theorem d_Law_law_266 : decode code 266 = .ok (.aload_n 2, 1) := by decide +kernel
theorem d_Law_law_267 : decode code 267 = .ok (.aload_n 0, 1) := by decide +kernel
theorem d_Law_law_268 : decode code 268 = .ok (.iload_n 3, 1) := by decide +kernel
theorem d_Law_law_269 : decode code 269 = .ok (.iconst 1, 1) := by decide +kernel
theorem d_Law_law_270 : decode code 270 = .ok (.iadd, 1) := by decide +kernel
theorem d_Law_law_271 : decode code 271 = .ok (.iaload, 1) := by decide +kernel
theorem d_Law_law_272 : decode code 272 = .ok (.aload_n 0, 1) := by decide +kernel
theorem d_Law_law_273 : decode code 273 = .ok (.iload_n 3, 1) := by decide +kernel
theorem d_Law_law_274 : decode code 274 = .ok (.iconst 2, 1) := by decide +kernel
theorem d_Law_law_275 : decode code 275 = .ok (.iadd, 1) := by decide +kernel
theorem d_Law_law_276 : decode code 276 = .ok (.iaload, 1) := by decide +kernel
theorem d_Law_law_277 : decode code 277 = .ok (.aload_n 0, 1) := by decide +kernel
theorem d_Law_law_278 : decode code 278 = .ok (.iload_n 3, 1) := by decide +kernel
theorem d_Law_law_279 : decode code 279 = .ok (.iconst 3, 1) := by decide +kernel
theorem d_Law_law_280 : decode code 280 = .ok (.iadd, 1) := by decide +kernel
theorem d_Law_law_281 : decode code 281 = .ok (.iaload, 1) := by decide +kernel
theorem d_Law_law_282 : decode code 282 = .ok (.invokevirtual 32, 3) := by decide +kernel
theorem d_Law_law_285 : decode code 285 = .ok (.lcmp, 1) := by decide +kernel
theorem d_Law_law_286 : decode code 286 = .ok (.ifCond .eq 159, 3) := by decide +kernel
theorem d_Law_law_289 : decode code 289 = .ok (.iconst 0, 1) := by decide +kernel
theorem d_Law_law_290 : decode code 290 = .ok (.ireturn, 1) := by decide +kernel
theorem d_Law_law_291 : decode code 291 = .ok (.aload_n 1, 1) := by decide +kernel
theorem d_Law_law_292 : decode code 292 = .ok (.aload_n 0, 1) := by decide +kernel
theorem d_Law_law_293 : decode code 293 = .ok (.iload_n 3, 1) := by decide +kernel
theorem d_Law_law_294 : decode code 294 = .ok (.iconst 1, 1) := by decide +kernel
theorem d_Law_law_295 : decode code 295 = .ok (.iadd, 1) := by decide +kernel
theorem d_Law_law_296 : decode code 296 = .ok (.iaload, 1) := by decide +kernel
theorem d_Law_law_297 : decode code 297 = .ok (.invokevirtual 33, 3) := by decide +kernel
theorem d_Law_law_300 : decode code 300 = .ok (.aload_n 2, 1) := by decide +kernel
theorem d_Law_law_301 : decode code 301 = .ok (.aload_n 0, 1) := by decide +kernel
