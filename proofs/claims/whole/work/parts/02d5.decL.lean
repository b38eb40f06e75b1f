theorem d_63_0 : decode (g_m 63).2.1 0 = .ok (.iload_n 1, 1) := by decide +kernel
theorem d_63_1 : decode (g_m 63).2.1 1 = .ok (.aload_n 0, 1) := by decide +kernel
theorem d_63_2 : decode (g_m 63).2.1 2 = .ok (.arraylength, 1) := by decide +kernel
theorem d_63_3 : decode (g_m 63).2.1 3 = .ok (.if_icmp .ge (9), 3) := by decide +kernel
theorem d_63_6 : decode (g_m 63).2.1 6 = .ok (.aload_n 0, 1) := by decide +kernel
theorem d_63_7 : decode (g_m 63).2.1 7 = .ok (.iload_n 1, 1) := by decide +kernel
theorem d_63_8 : decode (g_m 63).2.1 8 = .ok (.iaload, 1) := by decide +kernel
theorem d_63_9 : decode (g_m 63).2.1 9 = .ok (.goto (4), 3) := by decide +kernel
theorem d_63_12 : decode (g_m 63).2.1 12 = .ok (.iconst 0, 1) := by decide +kernel
theorem d_63_13 : decode (g_m 63).2.1 13 = .ok (.ireturn, 1) := by decide +kernel
theorem d_109_0 : decode (g_m 109).2.1 0 = .ok (.new 7, 3) := by decide +kernel
theorem d_109_3 : decode (g_m 109).2.1 3 = .ok (.dup, 1) := by decide +kernel
theorem d_109_4 : decode (g_m 109).2.1 4 = .ok (.aload_n 0, 1) := by decide +kernel
theorem d_109_5 : decode (g_m 109).2.1 5 = .ok (.iconst 0, 1) := by decide +kernel
theorem d_109_6 : decode (g_m 109).2.1 6 = .ok (.invokestatic 9, 3) := by decide +kernel
theorem d_109_9 : decode (g_m 109).2.1 9 = .ok (.aload_n 0, 1) := by decide +kernel
theorem d_109_10 : decode (g_m 109).2.1 10 = .ok (.iconst 1, 1) := by decide +kernel
theorem d_109_11 : decode (g_m 109).2.1 11 = .ok (.invokestatic 9, 3) := by decide +kernel
theorem d_109_14 : decode (g_m 109).2.1 14 = .ok (.invokespecial 15, 3) := by decide +kernel
theorem d_109_17 : decode (g_m 109).2.1 17 = .ok (.astore_n 1, 1) := by decide +kernel
theorem d_109_18 : decode (g_m 109).2.1 18 = .ok (.new 18, 3) := by decide +kernel
theorem d_109_21 : decode (g_m 109).2.1 21 = .ok (.dup, 1) := by decide +kernel
theorem d_109_22 : decode (g_m 109).2.1 22 = .ok (.aload_n 0, 1) := by decide +kernel
theorem d_109_23 : decode (g_m 109).2.1 23 = .ok (.iconst 0, 1) := by decide +kernel
theorem d_109_24 : decode (g_m 109).2.1 24 = .ok (.invokestatic 9, 3) := by decide +kernel
theorem d_109_27 : decode (g_m 109).2.1 27 = .ok (.aload_n 0, 1) := by decide +kernel
theorem d_109_28 : decode (g_m 109).2.1 28 = .ok (.iconst 1, 1) := by decide +kernel
theorem d_109_29 : decode (g_m 109).2.1 29 = .ok (.invokestatic 9, 3) := by decide +kernel
theorem d_109_32 : decode (g_m 109).2.1 32 = .ok (.invokespecial 20, 3) := by decide +kernel
theorem d_109_35 : decode (g_m 109).2.1 35 = .ok (.astore_n 2, 1) := by decide +kernel
theorem d_109_36 : decode (g_m 109).2.1 36 = .ok (.iconst 2, 1) := by decide +kernel
theorem d_109_37 : decode (g_m 109).2.1 37 = .ok (.istore_n 3, 1) := by decide +kernel
theorem d_109_38 : decode (g_m 109).2.1 38 = .ok (.iload_n 3, 1) := by decide +kernel
theorem d_109_39 : decode (g_m 109).2.1 39 = .ok (.aload_n 0, 1) := by decide +kernel
theorem d_109_40 : decode (g_m 109).2.1 40 = .ok (.arraylength, 1) := by decide +kernel
theorem d_109_41 : decode (g_m 109).2.1 41 = .ok (.iconst 4, 1) := by decide +kernel
theorem d_109_42 : decode (g_m 109).2.1 42 = .ok (.isub, 1) := by decide +kernel
theorem d_109_43 : decode (g_m 109).2.1 43 = .ok (.if_icmp .gt (637), 3) := by decide +kernel
theorem d_109_46 : decode (g_m 109).2.1 46 = .ok (.aload_n 0, 1) := by decide +kernel
theorem d_109_47 : decode (g_m 109).2.1 47 = .ok (.iload_n 3, 1) := by decide +kernel
theorem d_109_48 : decode (g_m 109).2.1 48 = .ok (.iaload, 1) := by decide +kernel
theorem d_109_49 : decode (g_m 109).2.1 49 = .ok (.bipush 31, 2) := by decide +kernel
theorem d_109_51 : decode (g_m 109).2.1 51 = .ok (.iand, 1) := by decide +kernel
theorem d_109_52 : decode (g_m 109).2.1 52 = .ok (.tableswitch 622 0 19 #[96, 129, 142, 165, 188, 237, 250, 283, 306, 339, 382, 415, 438, 461, 494, 507, 530, 543, 586, 599], 96) := by decide +kernel
theorem d_109_148 : decode (g_m 109).2.1 148 = .ok (.aload_n 1, 1) := by decide +kernel
theorem d_109_149 : decode (g_m 109).2.1 149 = .ok (.aload_n 0, 1) := by decide +kernel
theorem d_109_150 : decode (g_m 109).2.1 150 = .ok (.iload_n 3, 1) := by decide +kernel
theorem d_109_151 : decode (g_m 109).2.1 151 = .ok (.iconst 1, 1) := by decide +kernel
theorem d_109_152 : decode (g_m 109).2.1 152 = .ok (.iadd, 1) := by decide +kernel
theorem d_109_153 : decode (g_m 109).2.1 153 = .ok (.iaload, 1) := by decide +kernel
theorem d_109_154 : decode (g_m 109).2.1 154 = .ok (.aload_n 0, 1) := by decide +kernel
theorem d_109_155 : decode (g_m 109).2.1 155 = .ok (.iload_n 3, 1) := by decide +kernel
theorem d_109_156 : decode (g_m 109).2.1 156 = .ok (.iconst 2, 1) := by decide +kernel
theorem d_109_157 : decode (g_m 109).2.1 157 = .ok (.iadd, 1) := by decide +kernel
theorem d_109_158 : decode (g_m 109).2.1 158 = .ok (.iaload, 1) := by decide +kernel
theorem d_109_159 : decode (g_m 109).2.1 159 = .ok (.invokevirtual 21, 3) := by decide +kernel
theorem d_109_162 : decode (g_m 109).2.1 162 = .ok (.aload_n 2, 1) := by decide +kernel
theorem d_109_163 : decode (g_m 109).2.1 163 = .ok (.aload_n 0, 1) := by decide +kernel
theorem d_109_164 : decode (g_m 109).2.1 164 = .ok (.iload_n 3, 1) := by decide +kernel
theorem d_109_165 : decode (g_m 109).2.1 165 = .ok (.iconst 1, 1) := by decide +kernel
theorem d_109_166 : decode (g_m 109).2.1 166 = .ok (.iadd, 1) := by decide +kernel
theorem d_109_167 : decode (g_m 109).2.1 167 = .ok (.iaload, 1) := by decide +kernel
theorem d_109_168 : decode (g_m 109).2.1 168 = .ok (.aload_n 0, 1) := by decide +kernel
theorem d_109_169 : decode (g_m 109).2.1 169 = .ok (.iload_n 3, 1) := by decide +kernel
theorem d_109_170 : decode (g_m 109).2.1 170 = .ok (.iconst 2, 1) := by decide +kernel
theorem d_109_171 : decode (g_m 109).2.1 171 = .ok (.iadd, 1) := by decide +kernel
theorem d_109_172 : decode (g_m 109).2.1 172 = .ok (.iaload, 1) := by decide +kernel
theorem d_109_173 : decode (g_m 109).2.1 173 = .ok (.invokevirtual 25, 3) := by decide +kernel
theorem d_109_176 : decode (g_m 109).2.1 176 = .ok (.if_icmp .eq (498), 3) := by decide +kernel
theorem d_109_179 : decode (g_m 109).2.1 179 = .ok (.iconst 0, 1) := by decide +kernel
theorem d_109_180 : decode (g_m 109).2.1 180 = .ok (.ireturn, 1) := by decide +kernel
theorem d_109_181 : decode (g_m 109).2.1 181 = .ok (.aload_n 1, 1) := by decide +kernel
theorem d_109_182 : decode (g_m 109).2.1 182 = .ok (.invokevirtual 26, 3) := by decide +kernel
theorem d_109_185 : decode (g_m 109).2.1 185 = .ok (.aload_n 2, 1) := by decide +kernel
theorem d_109_186 : decode (g_m 109).2.1 186 = .ok (.invokevirtual 30, 3) := by decide +kernel
theorem d_109_189 : decode (g_m 109).2.1 189 = .ok (.if_icmp .eq (485), 3) := by decide +kernel
theorem d_109_192 : decode (g_m 109).2.1 192 = .ok (.iconst 0, 1) := by decide +kernel
theorem d_109_193 : decode (g_m 109).2.1 193 = .ok (.ireturn, 1) := by decide +kernel
theorem d_109_194 : decode (g_m 109).2.1 194 = .ok (.aload_n 1, 1) := by decide +kernel
theorem d_109_195 : decode (g_m 109).2.1 195 = .ok (.aload_n 0, 1) := by decide +kernel
theorem d_109_196 : decode (g_m 109).2.1 196 = .ok (.iload_n 3, 1) := by decide +kernel
theorem d_109_197 : decode (g_m 109).2.1 197 = .ok (.iconst 1, 1) := by decide +kernel
theorem d_109_198 : decode (g_m 109).2.1 198 = .ok (.iadd, 1) := by decide +kernel
theorem d_109_199 : decode (g_m 109).2.1 199 = .ok (.iaload, 1) := by decide +kernel
theorem d_109_200 : decode (g_m 109).2.1 200 = .ok (.invokevirtual 31, 3) := by decide +kernel
theorem d_109_203 : decode (g_m 109).2.1 203 = .ok (.aload_n 2, 1) := by decide +kernel
theorem d_109_204 : decode (g_m 109).2.1 204 = .ok (.aload_n 0, 1) := by decide +kernel
theorem d_109_205 : decode (g_m 109).2.1 205 = .ok (.iload_n 3, 1) := by decide +kernel
theorem d_109_206 : decode (g_m 109).2.1 206 = .ok (.iconst 1, 1) := by decide +kernel
theorem d_109_207 : decode (g_m 109).2.1 207 = .ok (.iadd, 1) := by decide +kernel
theorem d_109_208 : decode (g_m 109).2.1 208 = .ok (.iaload, 1) := by decide +kernel
theorem d_109_209 : decode (g_m 109).2.1 209 = .ok (.invokevirtual 35, 3) := by decide +kernel
theorem d_109_212 : decode (g_m 109).2.1 212 = .ok (.if_icmp .eq (462), 3) := by decide +kernel
theorem d_109_215 : decode (g_m 109).2.1 215 = .ok (.iconst 0, 1) := by decide +kernel
theorem d_109_216 : decode (g_m 109).2.1 216 = .ok (.ireturn, 1) := by decide +kernel
theorem d_109_217 : decode (g_m 109).2.1 217 = .ok (.aload_n 1, 1) := by decide +kernel
theorem d_109_218 : decode (g_m 109).2.1 218 = .ok (.aload_n 0, 1) := by decide +kernel
theorem d_109_219 : decode (g_m 109).2.1 219 = .ok (.iload_n 3, 1) := by decide +kernel
theorem d_109_220 : decode (g_m 109).2.1 220 = .ok (.iconst 1, 1) := by decide +kernel
theorem d_109_221 : decode (g_m 109).2.1 221 = .ok (.iadd, 1) := by decide +kernel
theorem d_109_222 : decode (g_m 109).2.1 222 = .ok (.iaload, 1) := by decide +kernel
theorem d_109_223 : decode (g_m 109).2.1 223 = .ok (.invokevirtual 36, 3) := by decide +kernel
theorem d_109_226 : decode (g_m 109).2.1 226 = .ok (.aload_n 2, 1) := by decide +kernel
theorem d_109_227 : decode (g_m 109).2.1 227 = .ok (.aload_n 0, 1) := by decide +kernel
theorem d_109_228 : decode (g_m 109).2.1 228 = .ok (.iload_n 3, 1) := by decide +kernel
theorem d_109_229 : decode (g_m 109).2.1 229 = .ok (.iconst 1, 1) := by decide +kernel
theorem d_109_230 : decode (g_m 109).2.1 230 = .ok (.iadd, 1) := by decide +kernel
theorem d_109_231 : decode (g_m 109).2.1 231 = .ok (.iaload, 1) := by decide +kernel
theorem d_109_232 : decode (g_m 109).2.1 232 = .ok (.invokevirtual 39, 3) := by decide +kernel
theorem d_109_235 : decode (g_m 109).2.1 235 = .ok (.if_icmp .eq (439), 3) := by decide +kernel
theorem d_109_238 : decode (g_m 109).2.1 238 = .ok (.iconst 0, 1) := by decide +kernel
theorem d_109_239 : decode (g_m 109).2.1 239 = .ok (.ireturn, 1) := by decide +kernel
theorem d_109_240 : decode (g_m 109).2.1 240 = .ok (.aload_n 1, 1) := by decide +kernel
theorem d_109_241 : decode (g_m 109).2.1 241 = .ok (.aload_n 0, 1) := by decide +kernel
theorem d_109_242 : decode (g_m 109).2.1 242 = .ok (.iload_n 3, 1) := by decide +kernel
theorem d_109_243 : decode (g_m 109).2.1 243 = .ok (.iconst 1, 1) := by decide +kernel
theorem d_109_244 : decode (g_m 109).2.1 244 = .ok (.iadd, 1) := by decide +kernel
theorem d_109_245 : decode (g_m 109).2.1 245 = .ok (.iaload, 1) := by decide +kernel
theorem d_109_246 : decode (g_m 109).2.1 246 = .ok (.aload_n 0, 1) := by decide +kernel
theorem d_109_247 : decode (g_m 109).2.1 247 = .ok (.iload_n 3, 1) := by decide +kernel
theorem d_109_248 : decode (g_m 109).2.1 248 = .ok (.iconst 2, 1) := by decide +kernel
theorem d_109_249 : decode (g_m 109).2.1 249 = .ok (.iadd, 1) := by decide +kernel
theorem d_109_250 : decode (g_m 109).2.1 250 = .ok (.iaload, 1) := by decide +kernel
theorem d_109_251 : decode (g_m 109).2.1 251 = .ok (.ifCond .eq (7), 3) := by decide +kernel
theorem d_109_254 : decode (g_m 109).2.1 254 = .ok (.iconst 1, 1) := by decide +kernel
theorem d_109_255 : decode (g_m 109).2.1 255 = .ok (.goto (4), 3) := by decide +kernel
theorem d_109_258 : decode (g_m 109).2.1 258 = .ok (.iconst 0, 1) := by decide +kernel
theorem d_109_259 : decode (g_m 109).2.1 259 = .ok (.invokevirtual 40, 3) := by decide +kernel
theorem d_109_262 : decode (g_m 109).2.1 262 = .ok (.aload_n 2, 1) := by decide +kernel
theorem d_109_263 : decode (g_m 109).2.1 263 = .ok (.aload_n 0, 1) := by decide +kernel
theorem d_109_264 : decode (g_m 109).2.1 264 = .ok (.iload_n 3, 1) := by decide +kernel
theorem d_109_265 : decode (g_m 109).2.1 265 = .ok (.iconst 1, 1) := by decide +kernel
theorem d_109_266 : decode (g_m 109).2.1 266 = .ok (.iadd, 1) := by decide +kernel
theorem d_109_267 : decode (g_m 109).2.1 267 = .ok (.iaload, 1) := by decide +kernel
theorem d_109_268 : decode (g_m 109).2.1 268 = .ok (.aload_n 0, 1) := by decide +kernel
theorem d_109_269 : decode (g_m 109).2.1 269 = .ok (.iload_n 3, 1) := by decide +kernel
theorem d_109_270 : decode (g_m 109).2.1 270 = .ok (.iconst 2, 1) := by decide +kernel
theorem d_109_271 : decode (g_m 109).2.1 271 = .ok (.iadd, 1) := by decide +kernel
theorem d_109_272 : decode (g_m 109).2.1 272 = .ok (.iaload, 1) := by decide +kernel
theorem d_109_273 : decode (g_m 109).2.1 273 = .ok (.ifCond .eq (7), 3) := by decide +kernel
theorem d_109_276 : decode (g_m 109).2.1 276 = .ok (.iconst 1, 1) := by decide +kernel
theorem d_109_277 : decode (g_m 109).2.1 277 = .ok (.goto (4), 3) := by decide +kernel
theorem d_109_280 : decode (g_m 109).2.1 280 = .ok (.iconst 0, 1) := by decide +kernel
theorem d_109_281 : decode (g_m 109).2.1 281 = .ok (.invokevirtual 44, 3) := by decide +kernel
theorem d_109_284 : decode (g_m 109).2.1 284 = .ok (.if_icmp .eq (390), 3) := by decide +kernel
theorem d_109_287 : decode (g_m 109).2.1 287 = .ok (.iconst 0, 1) := by decide +kernel
theorem d_109_288 : decode (g_m 109).2.1 288 = .ok (.ireturn, 1) := by decide +kernel
theorem d_109_289 : decode (g_m 109).2.1 289 = .ok (.aload_n 1, 1) := by decide +kernel
theorem d_109_290 : decode (g_m 109).2.1 290 = .ok (.invokevirtual 45, 3) := by decide +kernel
theorem d_109_293 : decode (g_m 109).2.1 293 = .ok (.aload_n 2, 1) := by decide +kernel
theorem d_109_294 : decode (g_m 109).2.1 294 = .ok (.invokevirtual 48, 3) := by decide +kernel
theorem d_109_297 : decode (g_m 109).2.1 297 = .ok (.if_icmp .eq (377), 3) := by decide +kernel
theorem d_109_300 : decode (g_m 109).2.1 300 = .ok (.iconst 0, 1) := by decide +kernel
theorem d_109_301 : decode (g_m 109).2.1 301 = .ok (.ireturn, 1) := by decide +kernel
theorem d_109_302 : decode (g_m 109).2.1 302 = .ok (.aload_n 1, 1) := by decide +kernel
theorem d_109_303 : decode (g_m 109).2.1 303 = .ok (.aload_n 0, 1) := by decide +kernel
theorem d_109_304 : decode (g_m 109).2.1 304 = .ok (.iload_n 3, 1) := by decide +kernel
theorem d_109_305 : decode (g_m 109).2.1 305 = .ok (.iconst 1, 1) := by decide +kernel
theorem d_109_306 : decode (g_m 109).2.1 306 = .ok (.iadd, 1) := by decide +kernel
theorem d_109_307 : decode (g_m 109).2.1 307 = .ok (.iaload, 1) := by decide +kernel
theorem d_109_308 : decode (g_m 109).2.1 308 = .ok (.aload_n 0, 1) := by decide +kernel
theorem d_109_309 : decode (g_m 109).2.1 309 = .ok (.iload_n 3, 1) := by decide +kernel
theorem d_109_310 : decode (g_m 109).2.1 310 = .ok (.iconst 2, 1) := by decide +kernel
theorem d_109_311 : decode (g_m 109).2.1 311 = .ok (.iadd, 1) := by decide +kernel
theorem d_109_312 : decode (g_m 109).2.1 312 = .ok (.iaload, 1) := by decide +kernel
theorem d_109_313 : decode (g_m 109).2.1 313 = .ok (.invokevirtual 49, 3) := by decide +kernel
theorem d_109_316 : decode (g_m 109).2.1 316 = .ok (.aload_n 2, 1) := by decide +kernel
theorem d_109_317 : decode (g_m 109).2.1 317 = .ok (.aload_n 0, 1) := by decide +kernel
theorem d_109_318 : decode (g_m 109).2.1 318 = .ok (.iload_n 3, 1) := by decide +kernel
theorem d_109_319 : decode (g_m 109).2.1 319 = .ok (.iconst 1, 1) := by decide +kernel
theorem d_109_320 : decode (g_m 109).2.1 320 = .ok (.iadd, 1) := by decide +kernel
theorem d_109_321 : decode (g_m 109).2.1 321 = .ok (.iaload, 1) := by decide +kernel
theorem d_109_322 : decode (g_m 109).2.1 322 = .ok (.aload_n 0, 1) := by decide +kernel
theorem d_109_323 : decode (g_m 109).2.1 323 = .ok (.iload_n 3, 1) := by decide +kernel
theorem d_109_324 : decode (g_m 109).2.1 324 = .ok (.iconst 2, 1) := by decide +kernel
theorem d_109_325 : decode (g_m 109).2.1 325 = .ok (.iadd, 1) := by decide +kernel
theorem d_109_326 : decode (g_m 109).2.1 326 = .ok (.iaload, 1) := by decide +kernel
theorem d_109_327 : decode (g_m 109).2.1 327 = .ok (.invokevirtual 52, 3) := by decide +kernel
theorem d_109_330 : decode (g_m 109).2.1 330 = .ok (.if_icmp .eq (344), 3) := by decide +kernel
theorem d_109_333 : decode (g_m 109).2.1 333 = .ok (.iconst 0, 1) := by decide +kernel
theorem d_109_334 : decode (g_m 109).2.1 334 = .ok (.ireturn, 1) := by decide +kernel
theorem d_109_335 : decode (g_m 109).2.1 335 = .ok (.aload_n 1, 1) := by decide +kernel
theorem d_109_336 : decode (g_m 109).2.1 336 = .ok (.aload_n 0, 1) := by decide +kernel
theorem d_109_337 : decode (g_m 109).2.1 337 = .ok (.iload_n 3, 1) := by decide +kernel
theorem d_109_338 : decode (g_m 109).2.1 338 = .ok (.iconst 1, 1) := by decide +kernel
theorem d_109_339 : decode (g_m 109).2.1 339 = .ok (.iadd, 1) := by decide +kernel
theorem d_109_340 : decode (g_m 109).2.1 340 = .ok (.iaload, 1) := by decide +kernel
theorem d_109_341 : decode (g_m 109).2.1 341 = .ok (.invokevirtual 53, 3) := by decide +kernel
theorem d_109_344 : decode (g_m 109).2.1 344 = .ok (.aload_n 2, 1) := by decide +kernel
theorem d_109_345 : decode (g_m 109).2.1 345 = .ok (.aload_n 0, 1) := by decide +kernel
theorem d_109_346 : decode (g_m 109).2.1 346 = .ok (.iload_n 3, 1) := by decide +kernel
theorem d_109_347 : decode (g_m 109).2.1 347 = .ok (.iconst 1, 1) := by decide +kernel
theorem d_109_348 : decode (g_m 109).2.1 348 = .ok (.iadd, 1) := by decide +kernel
theorem d_109_349 : decode (g_m 109).2.1 349 = .ok (.iaload, 1) := by decide +kernel
theorem d_109_350 : decode (g_m 109).2.1 350 = .ok (.invokevirtual 56, 3) := by decide +kernel
theorem d_109_353 : decode (g_m 109).2.1 353 = .ok (.if_icmp .eq (321), 3) := by decide +kernel
theorem d_109_356 : decode (g_m 109).2.1 356 = .ok (.iconst 0, 1) := by decide +kernel
theorem d_109_357 : decode (g_m 109).2.1 357 = .ok (.ireturn, 1) := by decide +kernel
theorem d_109_358 : decode (g_m 109).2.1 358 = .ok (.aload_n 1, 1) := by decide +kernel
theorem d_109_359 : decode (g_m 109).2.1 359 = .ok (.aload_n 0, 1) := by decide +kernel
theorem d_109_360 : decode (g_m 109).2.1 360 = .ok (.iload_n 3, 1) := by decide +kernel
theorem d_109_361 : decode (g_m 109).2.1 361 = .ok (.iconst 1, 1) := by decide +kernel
theorem d_109_362 : decode (g_m 109).2.1 362 = .ok (.iadd, 1) := by decide +kernel
theorem d_109_363 : decode (g_m 109).2.1 363 = .ok (.iaload, 1) := by decide +kernel
theorem d_109_364 : decode (g_m 109).2.1 364 = .ok (.aload_n 0, 1) := by decide +kernel
theorem d_109_365 : decode (g_m 109).2.1 365 = .ok (.iload_n 3, 1) := by decide +kernel
theorem d_109_366 : decode (g_m 109).2.1 366 = .ok (.iconst 2, 1) := by decide +kernel
theorem d_109_367 : decode (g_m 109).2.1 367 = .ok (.iadd, 1) := by decide +kernel
theorem d_109_368 : decode (g_m 109).2.1 368 = .ok (.iaload, 1) := by decide +kernel
theorem d_109_369 : decode (g_m 109).2.1 369 = .ok (.invokevirtual 57, 3) := by decide +kernel
theorem d_109_372 : decode (g_m 109).2.1 372 = .ok (.aload_n 2, 1) := by decide +kernel
theorem d_109_373 : decode (g_m 109).2.1 373 = .ok (.aload_n 0, 1) := by decide +kernel
theorem d_109_374 : decode (g_m 109).2.1 374 = .ok (.iload_n 3, 1) := by decide +kernel
theorem d_109_375 : decode (g_m 109).2.1 375 = .ok (.iconst 1, 1) := by decide +kernel
theorem d_109_376 : decode (g_m 109).2.1 376 = .ok (.iadd, 1) := by decide +kernel
theorem d_109_377 : decode (g_m 109).2.1 377 = .ok (.iaload, 1) := by decide +kernel
theorem d_109_378 : decode (g_m 109).2.1 378 = .ok (.aload_n 0, 1) := by decide +kernel
theorem d_109_379 : decode (g_m 109).2.1 379 = .ok (.iload_n 3, 1) := by decide +kernel
theorem d_109_380 : decode (g_m 109).2.1 380 = .ok (.iconst 2, 1) := by decide +kernel
theorem d_109_381 : decode (g_m 109).2.1 381 = .ok (.iadd, 1) := by decide +kernel
theorem d_109_382 : decode (g_m 109).2.1 382 = .ok (.iaload, 1) := by decide +kernel
theorem d_109_383 : decode (g_m 109).2.1 383 = .ok (.invokevirtual 60, 3) := by decide +kernel
theorem d_109_386 : decode (g_m 109).2.1 386 = .ok (.if_icmp .eq (288), 3) := by decide +kernel
theorem d_109_389 : decode (g_m 109).2.1 389 = .ok (.iconst 0, 1) := by decide +kernel
theorem d_109_390 : decode (g_m 109).2.1 390 = .ok (.ireturn, 1) := by decide +kernel
theorem d_109_391 : decode (g_m 109).2.1 391 = .ok (.aload_n 1, 1) := by decide +kernel
theorem d_109_392 : decode (g_m 109).2.1 392 = .ok (.aload_n 0, 1) := by decide +kernel
theorem d_109_393 : decode (g_m 109).2.1 393 = .ok (.iload_n 3, 1) := by decide +kernel
theorem d_109_394 : decode (g_m 109).2.1 394 = .ok (.iconst 1, 1) := by decide +kernel
theorem d_109_395 : decode (g_m 109).2.1 395 = .ok (.iadd, 1) := by decide +kernel
theorem d_109_396 : decode (g_m 109).2.1 396 = .ok (.iaload, 1) := by decide +kernel
theorem d_109_397 : decode (g_m 109).2.1 397 = .ok (.aload_n 0, 1) := by decide +kernel
theorem d_109_398 : decode (g_m 109).2.1 398 = .ok (.iload_n 3, 1) := by decide +kernel
theorem d_109_399 : decode (g_m 109).2.1 399 = .ok (.iconst 2, 1) := by decide +kernel
theorem d_109_400 : decode (g_m 109).2.1 400 = .ok (.iadd, 1) := by decide +kernel
theorem d_109_401 : decode (g_m 109).2.1 401 = .ok (.iaload, 1) := by decide +kernel
theorem d_109_402 : decode (g_m 109).2.1 402 = .ok (.aload_n 0, 1) := by decide +kernel
theorem d_109_403 : decode (g_m 109).2.1 403 = .ok (.iload_n 3, 1) := by decide +kernel
theorem d_109_404 : decode (g_m 109).2.1 404 = .ok (.iconst 3, 1) := by decide +kernel
theorem d_109_405 : decode (g_m 109).2.1 405 = .ok (.iadd, 1) := by decide +kernel
theorem d_109_406 : decode (g_m 109).2.1 406 = .ok (.iaload, 1) := by decide +kernel
theorem d_109_407 : decode (g_m 109).2.1 407 = .ok (.invokevirtual 61, 3) := by decide +kernel
theorem d_109_410 : decode (g_m 109).2.1 410 = .ok (.aload_n 2, 1) := by decide +kernel
theorem d_109_411 : decode (g_m 109).2.1 411 = .ok (.aload_n 0, 1) := by decide +kernel
theorem d_109_412 : decode (g_m 109).2.1 412 = .ok (.iload_n 3, 1) := by decide +kernel
theorem d_109_413 : decode (g_m 109).2.1 413 = .ok (.iconst 1, 1) := by decide +kernel
theorem d_109_414 : decode (g_m 109).2.1 414 = .ok (.iadd, 1) := by decide +kernel
theorem d_109_415 : decode (g_m 109).2.1 415 = .ok (.iaload, 1) := by decide +kernel
theorem d_109_416 : decode (g_m 109).2.1 416 = .ok (.aload_n 0, 1) := by decide +kernel
theorem d_109_417 : decode (g_m 109).2.1 417 = .ok (.iload_n 3, 1) := by decide +kernel
theorem d_109_418 : decode (g_m 109).2.1 418 = .ok (.iconst 2, 1) := by decide +kernel
theorem d_109_419 : decode (g_m 109).2.1 419 = .ok (.iadd, 1) := by decide +kernel
theorem d_109_420 : decode (g_m 109).2.1 420 = .ok (.iaload, 1) := by decide +kernel
theorem d_109_421 : decode (g_m 109).2.1 421 = .ok (.aload_n 0, 1) := by decide +kernel
theorem d_109_422 : decode (g_m 109).2.1 422 = .ok (.iload_n 3, 1) := by decide +kernel
theorem d_109_423 : decode (g_m 109).2.1 423 = .ok (.iconst 3, 1) := by decide +kernel
theorem d_109_424 : decode (g_m 109).2.1 424 = .ok (.iadd, 1) := by decide +kernel
theorem d_109_425 : decode (g_m 109).2.1 425 = .ok (.iaload, 1) := by decide +kernel
theorem d_109_426 : decode (g_m 109).2.1 426 = .ok (.invokevirtual 65, 3) := by decide +kernel
theorem d_109_429 : decode (g_m 109).2.1 429 = .ok (.if_icmp .eq (245), 3) := by decide +kernel
theorem d_109_432 : decode (g_m 109).2.1 432 = .ok (.iconst 0, 1) := by decide +kernel
theorem d_109_433 : decode (g_m 109).2.1 433 = .ok (.ireturn, 1) := by decide +kernel
theorem d_109_434 : decode (g_m 109).2.1 434 = .ok (.aload_n 1, 1) := by decide +kernel
theorem d_109_435 : decode (g_m 109).2.1 435 = .ok (.aload_n 0, 1) := by decide +kernel
theorem d_109_436 : decode (g_m 109).2.1 436 = .ok (.iload_n 3, 1) := by decide +kernel
theorem d_109_437 : decode (g_m 109).2.1 437 = .ok (.iconst 1, 1) := by decide +kernel
theorem d_109_438 : decode (g_m 109).2.1 438 = .ok (.iadd, 1) := by decide +kernel
theorem d_109_439 : decode (g_m 109).2.1 439 = .ok (.iaload, 1) := by decide +kernel
theorem d_109_440 : decode (g_m 109).2.1 440 = .ok (.aload_n 0, 1) := by decide +kernel
theorem d_109_441 : decode (g_m 109).2.1 441 = .ok (.iload_n 3, 1) := by decide +kernel
theorem d_109_442 : decode (g_m 109).2.1 442 = .ok (.iconst 2, 1) := by decide +kernel
theorem d_109_443 : decode (g_m 109).2.1 443 = .ok (.iadd, 1) := by decide +kernel
theorem d_109_444 : decode (g_m 109).2.1 444 = .ok (.iaload, 1) := by decide +kernel
theorem d_109_445 : decode (g_m 109).2.1 445 = .ok (.invokevirtual 66, 3) := by decide +kernel
theorem d_109_448 : decode (g_m 109).2.1 448 = .ok (.aload_n 2, 1) := by decide +kernel
theorem d_109_449 : decode (g_m 109).2.1 449 = .ok (.aload_n 0, 1) := by decide +kernel
theorem d_109_450 : decode (g_m 109).2.1 450 = .ok (.iload_n 3, 1) := by decide +kernel
theorem d_109_451 : decode (g_m 109).2.1 451 = .ok (.iconst 1, 1) := by decide +kernel
theorem d_109_452 : decode (g_m 109).2.1 452 = .ok (.iadd, 1) := by decide +kernel
theorem d_109_453 : decode (g_m 109).2.1 453 = .ok (.iaload, 1) := by decide +kernel
theorem d_109_454 : decode (g_m 109).2.1 454 = .ok (.aload_n 0, 1) := by decide +kernel
theorem d_109_455 : decode (g_m 109).2.1 455 = .ok (.iload_n 3, 1) := by decide +kernel
theorem d_109_456 : decode (g_m 109).2.1 456 = .ok (.iconst 2, 1) := by decide +kernel
theorem d_109_457 : decode (g_m 109).2.1 457 = .ok (.iadd, 1) := by decide +kernel
theorem d_109_458 : decode (g_m 109).2.1 458 = .ok (.iaload, 1) := by decide +kernel
theorem d_109_459 : decode (g_m 109).2.1 459 = .ok (.invokevirtual 69, 3) := by decide +kernel
theorem d_109_462 : decode (g_m 109).2.1 462 = .ok (.if_icmp .eq (212), 3) := by decide +kernel
theorem d_109_465 : decode (g_m 109).2.1 465 = .ok (.iconst 0, 1) := by decide +kernel
theorem d_109_466 : decode (g_m 109).2.1 466 = .ok (.ireturn, 1) := by decide +kernel
theorem d_109_467 : decode (g_m 109).2.1 467 = .ok (.aload_n 1, 1) := by decide +kernel
theorem d_109_468 : decode (g_m 109).2.1 468 = .ok (.aload_n 0, 1) := by decide +kernel
theorem d_109_469 : decode (g_m 109).2.1 469 = .ok (.iload_n 3, 1) := by decide +kernel
theorem d_109_470 : decode (g_m 109).2.1 470 = .ok (.iconst 1, 1) := by decide +kernel
theorem d_109_471 : decode (g_m 109).2.1 471 = .ok (.iadd, 1) := by decide +kernel
theorem d_109_472 : decode (g_m 109).2.1 472 = .ok (.iaload, 1) := by decide +kernel
theorem d_109_473 : decode (g_m 109).2.1 473 = .ok (.invokevirtual 70, 3) := by decide +kernel
theorem d_109_476 : decode (g_m 109).2.1 476 = .ok (.aload_n 2, 1) := by decide +kernel
theorem d_109_477 : decode (g_m 109).2.1 477 = .ok (.aload_n 0, 1) := by decide +kernel
theorem d_109_478 : decode (g_m 109).2.1 478 = .ok (.iload_n 3, 1) := by decide +kernel
theorem d_109_479 : decode (g_m 109).2.1 479 = .ok (.iconst 1, 1) := by decide +kernel
theorem d_109_480 : decode (g_m 109).2.1 480 = .ok (.iadd, 1) := by decide +kernel
theorem d_109_481 : decode (g_m 109).2.1 481 = .ok (.iaload, 1) := by decide +kernel
theorem d_109_482 : decode (g_m 109).2.1 482 = .ok (.invokevirtual 73, 3) := by decide +kernel
theorem d_109_485 : decode (g_m 109).2.1 485 = .ok (.if_icmp .eq (189), 3) := by decide +kernel
theorem d_109_488 : decode (g_m 109).2.1 488 = .ok (.iconst 0, 1) := by decide +kernel
theorem d_109_489 : decode (g_m 109).2.1 489 = .ok (.ireturn, 1) := by decide +kernel
theorem d_109_490 : decode (g_m 109).2.1 490 = .ok (.aload_n 1, 1) := by decide +kernel
theorem d_109_491 : decode (g_m 109).2.1 491 = .ok (.aload_n 0, 1) := by decide +kernel
theorem d_109_492 : decode (g_m 109).2.1 492 = .ok (.iload_n 3, 1) := by decide +kernel
theorem d_109_493 : decode (g_m 109).2.1 493 = .ok (.iconst 1, 1) := by decide +kernel
theorem d_109_494 : decode (g_m 109).2.1 494 = .ok (.iadd, 1) := by decide +kernel
theorem d_109_495 : decode (g_m 109).2.1 495 = .ok (.iaload, 1) := by decide +kernel
theorem d_109_496 : decode (g_m 109).2.1 496 = .ok (.invokevirtual 74, 3) := by decide +kernel
theorem d_109_499 : decode (g_m 109).2.1 499 = .ok (.aload_n 2, 1) := by decide +kernel
theorem d_109_500 : decode (g_m 109).2.1 500 = .ok (.aload_n 0, 1) := by decide +kernel
theorem d_109_501 : decode (g_m 109).2.1 501 = .ok (.iload_n 3, 1) := by decide +kernel
theorem d_109_502 : decode (g_m 109).2.1 502 = .ok (.iconst 1, 1) := by decide +kernel
theorem d_109_503 : decode (g_m 109).2.1 503 = .ok (.iadd, 1) := by decide +kernel
theorem d_109_504 : decode (g_m 109).2.1 504 = .ok (.iaload, 1) := by decide +kernel
theorem d_109_505 : decode (g_m 109).2.1 505 = .ok (.invokevirtual 77, 3) := by decide +kernel
theorem d_109_508 : decode (g_m 109).2.1 508 = .ok (.if_icmp .eq (166), 3) := by decide +kernel
theorem d_109_511 : decode (g_m 109).2.1 511 = .ok (.iconst 0, 1) := by decide +kernel
theorem d_109_512 : decode (g_m 109).2.1 512 = .ok (.ireturn, 1) := by decide +kernel
theorem d_109_513 : decode (g_m 109).2.1 513 = .ok (.aload_n 1, 1) := by decide +kernel
theorem d_109_514 : decode (g_m 109).2.1 514 = .ok (.aload_n 0, 1) := by decide +kernel
theorem d_109_515 : decode (g_m 109).2.1 515 = .ok (.iload_n 3, 1) := by decide +kernel
theorem d_109_516 : decode (g_m 109).2.1 516 = .ok (.iconst 1, 1) := by decide +kernel
theorem d_109_517 : decode (g_m 109).2.1 517 = .ok (.iadd, 1) := by decide +kernel
theorem d_109_518 : decode (g_m 109).2.1 518 = .ok (.iaload, 1) := by decide +kernel
theorem d_109_519 : decode (g_m 109).2.1 519 = .ok (.aload_n 0, 1) := by decide +kernel
theorem d_109_520 : decode (g_m 109).2.1 520 = .ok (.iload_n 3, 1) := by decide +kernel
theorem d_109_521 : decode (g_m 109).2.1 521 = .ok (.iconst 2, 1) := by decide +kernel
theorem d_109_522 : decode (g_m 109).2.1 522 = .ok (.iadd, 1) := by decide +kernel
theorem d_109_523 : decode (g_m 109).2.1 523 = .ok (.iaload, 1) := by decide +kernel
theorem d_109_524 : decode (g_m 109).2.1 524 = .ok (.invokevirtual 78, 3) := by decide +kernel
theorem d_109_527 : decode (g_m 109).2.1 527 = .ok (.aload_n 2, 1) := by decide +kernel
theorem d_109_528 : decode (g_m 109).2.1 528 = .ok (.aload_n 0, 1) := by decide +kernel
theorem d_109_529 : decode (g_m 109).2.1 529 = .ok (.iload_n 3, 1) := by decide +kernel
theorem d_109_530 : decode (g_m 109).2.1 530 = .ok (.iconst 1, 1) := by decide +kernel
theorem d_109_531 : decode (g_m 109).2.1 531 = .ok (.iadd, 1) := by decide +kernel
theorem d_109_532 : decode (g_m 109).2.1 532 = .ok (.iaload, 1) := by decide +kernel
theorem d_109_533 : decode (g_m 109).2.1 533 = .ok (.aload_n 0, 1) := by decide +kernel
theorem d_109_534 : decode (g_m 109).2.1 534 = .ok (.iload_n 3, 1) := by decide +kernel
theorem d_109_535 : decode (g_m 109).2.1 535 = .ok (.iconst 2, 1) := by decide +kernel
theorem d_109_536 : decode (g_m 109).2.1 536 = .ok (.iadd, 1) := by decide +kernel
theorem d_109_537 : decode (g_m 109).2.1 537 = .ok (.iaload, 1) := by decide +kernel
theorem d_109_538 : decode (g_m 109).2.1 538 = .ok (.invokevirtual 81, 3) := by decide +kernel
theorem d_109_541 : decode (g_m 109).2.1 541 = .ok (.if_icmp .eq (133), 3) := by decide +kernel
theorem d_109_544 : decode (g_m 109).2.1 544 = .ok (.iconst 0, 1) := by decide +kernel
theorem d_109_545 : decode (g_m 109).2.1 545 = .ok (.ireturn, 1) := by decide +kernel
theorem d_109_546 : decode (g_m 109).2.1 546 = .ok (.aload_n 1, 1) := by decide +kernel
theorem d_109_547 : decode (g_m 109).2.1 547 = .ok (.invokevirtual 82, 3) := by decide +kernel
theorem d_109_550 : decode (g_m 109).2.1 550 = .ok (.aload_n 2, 1) := by decide +kernel
theorem d_109_551 : decode (g_m 109).2.1 551 = .ok (.invokevirtual 85, 3) := by decide +kernel
theorem d_109_554 : decode (g_m 109).2.1 554 = .ok (.if_icmp .eq (120), 3) := by decide +kernel
theorem d_109_557 : decode (g_m 109).2.1 557 = .ok (.iconst 0, 1) := by decide +kernel
theorem d_109_558 : decode (g_m 109).2.1 558 = .ok (.ireturn, 1) := by decide +kernel
theorem d_109_559 : decode (g_m 109).2.1 559 = .ok (.aload_n 1, 1) := by decide +kernel
theorem d_109_560 : decode (g_m 109).2.1 560 = .ok (.aload_n 0, 1) := by decide +kernel
theorem d_109_561 : decode (g_m 109).2.1 561 = .ok (.iload_n 3, 1) := by decide +kernel
theorem d_109_562 : decode (g_m 109).2.1 562 = .ok (.iconst 1, 1) := by decide +kernel
theorem d_109_563 : decode (g_m 109).2.1 563 = .ok (.iadd, 1) := by decide +kernel
theorem d_109_564 : decode (g_m 109).2.1 564 = .ok (.iaload, 1) := by decide +kernel
theorem d_109_565 : decode (g_m 109).2.1 565 = .ok (.invokevirtual 86, 3) := by decide +kernel
theorem d_109_568 : decode (g_m 109).2.1 568 = .ok (.aload_n 2, 1) := by decide +kernel
theorem d_109_569 : decode (g_m 109).2.1 569 = .ok (.aload_n 0, 1) := by decide +kernel
theorem d_109_570 : decode (g_m 109).2.1 570 = .ok (.iload_n 3, 1) := by decide +kernel
theorem d_109_571 : decode (g_m 109).2.1 571 = .ok (.iconst 1, 1) := by decide +kernel
theorem d_109_572 : decode (g_m 109).2.1 572 = .ok (.iadd, 1) := by decide +kernel
theorem d_109_573 : decode (g_m 109).2.1 573 = .ok (.iaload, 1) := by decide +kernel
theorem d_109_574 : decode (g_m 109).2.1 574 = .ok (.invokevirtual 89, 3) := by decide +kernel
theorem d_109_577 : decode (g_m 109).2.1 577 = .ok (.if_icmp .eq (97), 3) := by decide +kernel
theorem d_109_580 : decode (g_m 109).2.1 580 = .ok (.iconst 0, 1) := by decide +kernel
theorem d_109_581 : decode (g_m 109).2.1 581 = .ok (.ireturn, 1) := by decide +kernel
theorem d_109_582 : decode (g_m 109).2.1 582 = .ok (.aload_n 1, 1) := by decide +kernel
theorem d_109_583 : decode (g_m 109).2.1 583 = .ok (.invokevirtual 90, 3) := by decide +kernel
theorem d_109_586 : decode (g_m 109).2.1 586 = .ok (.aload_n 2, 1) := by decide +kernel
theorem d_109_587 : decode (g_m 109).2.1 587 = .ok (.invokevirtual 93, 3) := by decide +kernel
theorem d_109_590 : decode (g_m 109).2.1 590 = .ok (.if_icmp .eq (84), 3) := by decide +kernel
theorem d_109_593 : decode (g_m 109).2.1 593 = .ok (.iconst 0, 1) := by decide +kernel
theorem d_109_594 : decode (g_m 109).2.1 594 = .ok (.ireturn, 1) := by decide +kernel
theorem d_109_595 : decode (g_m 109).2.1 595 = .ok (.aload_n 1, 1) := by decide +kernel
theorem d_109_596 : decode (g_m 109).2.1 596 = .ok (.aload_n 0, 1) := by decide +kernel
theorem d_109_597 : decode (g_m 109).2.1 597 = .ok (.iload_n 3, 1) := by decide +kernel
theorem d_109_598 : decode (g_m 109).2.1 598 = .ok (.iconst 1, 1) := by decide +kernel
theorem d_109_599 : decode (g_m 109).2.1 599 = .ok (.iadd, 1) := by decide +kernel
theorem d_109_600 : decode (g_m 109).2.1 600 = .ok (.iaload, 1) := by decide +kernel
theorem d_109_601 : decode (g_m 109).2.1 601 = .ok (.aload_n 0, 1) := by decide +kernel
theorem d_109_602 : decode (g_m 109).2.1 602 = .ok (.iload_n 3, 1) := by decide +kernel
theorem d_109_603 : decode (g_m 109).2.1 603 = .ok (.iconst 2, 1) := by decide +kernel
theorem d_109_604 : decode (g_m 109).2.1 604 = .ok (.iadd, 1) := by decide +kernel
theorem d_109_605 : decode (g_m 109).2.1 605 = .ok (.iaload, 1) := by decide +kernel
theorem d_109_606 : decode (g_m 109).2.1 606 = .ok (.aload_n 0, 1) := by decide +kernel
theorem d_109_607 : decode (g_m 109).2.1 607 = .ok (.iload_n 3, 1) := by decide +kernel
theorem d_109_608 : decode (g_m 109).2.1 608 = .ok (.iconst 3, 1) := by decide +kernel
theorem d_109_609 : decode (g_m 109).2.1 609 = .ok (.iadd, 1) := by decide +kernel
theorem d_109_610 : decode (g_m 109).2.1 610 = .ok (.iaload, 1) := by decide +kernel
theorem d_109_611 : decode (g_m 109).2.1 611 = .ok (.invokevirtual 94, 3) := by decide +kernel
theorem d_109_614 : decode (g_m 109).2.1 614 = .ok (.aload_n 2, 1) := by decide +kernel
theorem d_109_615 : decode (g_m 109).2.1 615 = .ok (.aload_n 0, 1) := by decide +kernel
theorem d_109_616 : decode (g_m 109).2.1 616 = .ok (.iload_n 3, 1) := by decide +kernel
theorem d_109_617 : decode (g_m 109).2.1 617 = .ok (.iconst 1, 1) := by decide +kernel
theorem d_109_618 : decode (g_m 109).2.1 618 = .ok (.iadd, 1) := by decide +kernel
theorem d_109_619 : decode (g_m 109).2.1 619 = .ok (.iaload, 1) := by decide +kernel
theorem d_109_620 : decode (g_m 109).2.1 620 = .ok (.aload_n 0, 1) := by decide +kernel
theorem d_109_621 : decode (g_m 109).2.1 621 = .ok (.iload_n 3, 1) := by decide +kernel
theorem d_109_622 : decode (g_m 109).2.1 622 = .ok (.iconst 2, 1) := by decide +kernel
theorem d_109_623 : decode (g_m 109).2.1 623 = .ok (.iadd, 1) := by decide +kernel
theorem d_109_624 : decode (g_m 109).2.1 624 = .ok (.iaload, 1) := by decide +kernel
theorem d_109_625 : decode (g_m 109).2.1 625 = .ok (.aload_n 0, 1) := by decide +kernel
theorem d_109_626 : decode (g_m 109).2.1 626 = .ok (.iload_n 3, 1) := by decide +kernel
theorem d_109_627 : decode (g_m 109).2.1 627 = .ok (.iconst 3, 1) := by decide +kernel
theorem d_109_628 : decode (g_m 109).2.1 628 = .ok (.iadd, 1) := by decide +kernel
theorem d_109_629 : decode (g_m 109).2.1 629 = .ok (.iaload, 1) := by decide +kernel
theorem d_109_630 : decode (g_m 109).2.1 630 = .ok (.invokevirtual 97, 3) := by decide +kernel
theorem d_109_633 : decode (g_m 109).2.1 633 = .ok (.if_icmp .eq (41), 3) := by decide +kernel
theorem d_109_636 : decode (g_m 109).2.1 636 = .ok (.iconst 0, 1) := by decide +kernel
theorem d_109_637 : decode (g_m 109).2.1 637 = .ok (.ireturn, 1) := by decide +kernel
theorem d_109_638 : decode (g_m 109).2.1 638 = .ok (.aload_n 1, 1) := by decide +kernel
theorem d_109_639 : decode (g_m 109).2.1 639 = .ok (.invokevirtual 98, 3) := by decide +kernel
theorem d_109_642 : decode (g_m 109).2.1 642 = .ok (.aload_n 2, 1) := by decide +kernel
theorem d_109_643 : decode (g_m 109).2.1 643 = .ok (.invokevirtual 101, 3) := by decide +kernel
theorem d_109_646 : decode (g_m 109).2.1 646 = .ok (.if_icmp .eq (28), 3) := by decide +kernel
theorem d_109_649 : decode (g_m 109).2.1 649 = .ok (.iconst 0, 1) := by decide +kernel
theorem d_109_650 : decode (g_m 109).2.1 650 = .ok (.ireturn, 1) := by decide +kernel
theorem d_109_651 : decode (g_m 109).2.1 651 = .ok (.aload_n 1, 1) := by decide +kernel
theorem d_109_652 : decode (g_m 109).2.1 652 = .ok (.aload_n 0, 1) := by decide +kernel
theorem d_109_653 : decode (g_m 109).2.1 653 = .ok (.iload_n 3, 1) := by decide +kernel
theorem d_109_654 : decode (g_m 109).2.1 654 = .ok (.iconst 1, 1) := by decide +kernel
theorem d_109_655 : decode (g_m 109).2.1 655 = .ok (.iadd, 1) := by decide +kernel
theorem d_109_656 : decode (g_m 109).2.1 656 = .ok (.iaload, 1) := by decide +kernel
theorem d_109_657 : decode (g_m 109).2.1 657 = .ok (.invokevirtual 102, 3) := by decide +kernel
theorem d_109_660 : decode (g_m 109).2.1 660 = .ok (.aload_n 2, 1) := by decide +kernel
theorem d_109_661 : decode (g_m 109).2.1 661 = .ok (.aload_n 0, 1) := by decide +kernel
theorem d_109_662 : decode (g_m 109).2.1 662 = .ok (.iload_n 3, 1) := by decide +kernel
theorem d_109_663 : decode (g_m 109).2.1 663 = .ok (.iconst 1, 1) := by decide +kernel
theorem d_109_664 : decode (g_m 109).2.1 664 = .ok (.iadd, 1) := by decide +kernel
theorem d_109_665 : decode (g_m 109).2.1 665 = .ok (.iaload, 1) := by decide +kernel
theorem d_109_666 : decode (g_m 109).2.1 666 = .ok (.invokevirtual 105, 3) := by decide +kernel
theorem d_109_669 : decode (g_m 109).2.1 669 = .ok (.if_icmp .eq (5), 3) := by decide +kernel
theorem d_109_672 : decode (g_m 109).2.1 672 = .ok (.iconst 0, 1) := by decide +kernel
theorem d_109_673 : decode (g_m 109).2.1 673 = .ok (.ireturn, 1) := by decide +kernel
theorem d_109_674 : decode (g_m 109).2.1 674 = .ok (.iinc 3 4, 3) := by decide +kernel
theorem d_109_677 : decode (g_m 109).2.1 677 = .ok (.goto (-639), 3) := by decide +kernel
theorem d_109_680 : decode (g_m 109).2.1 680 = .ok (.iconst 1, 1) := by decide +kernel
theorem d_109_681 : decode (g_m 109).2.1 681 = .ok (.ireturn, 1) := by decide +kernel
