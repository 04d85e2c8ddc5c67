theorem d_law_0 : decode code 0 = .ok (.new 8, 3) := by decide +kernel
theorem d_law_3 : decode code 3 = .ok (.dup, 1) := by decide +kernel
theorem d_law_4 : decode code 4 = .ok (.aload_n 0, 1) := by decide +kernel
theorem d_law_5 : decode code 5 = .ok (.iconst 0, 1) := by decide +kernel
theorem d_law_6 : decode code 6 = .ok (.invokestatic 57, 3) := by decide +kernel
theorem d_law_9 : decode code 9 = .ok (.aload_n 0, 1) := by decide +kernel
theorem d_law_10 : decode code 10 = .ok (.iconst 1, 1) := by decide +kernel
theorem d_law_11 : decode code 11 = .ok (.invokestatic 57, 3) := by decide +kernel
theorem d_law_14 : decode code 14 = .ok (.aload_n 0, 1) := by decide +kernel
theorem d_law_15 : decode code 15 = .ok (.iconst 2, 1) := by decide +kernel
theorem d_law_16 : decode code 16 = .ok (.invokestatic 57, 3) := by decide +kernel
theorem d_law_19 : decode code 19 = .ok (.aload_n 0, 1) := by decide +kernel
theorem d_law_20 : decode code 20 = .ok (.iconst 3, 1) := by decide +kernel
theorem d_law_21 : decode code 21 = .ok (.invokestatic 57, 3) := by decide +kernel
theorem d_law_24 : decode code 24 = .ok (.invokespecial 63, 3) := by decide +kernel
theorem d_law_27 : decode code 27 = .ok (.astore_n 1, 1) := by decide +kernel
theorem d_law_28 : decode code 28 = .ok (.new 66, 3) := by decide +kernel
theorem d_law_31 : decode code 31 = .ok (.dup, 1) := by decide +kernel
theorem d_law_32 : decode code 32 = .ok (.aload_n 0, 1) := by decide +kernel
theorem d_law_33 : decode code 33 = .ok (.iconst 0, 1) := by decide +kernel
theorem d_law_34 : decode code 34 = .ok (.invokestatic 57, 3) := by decide +kernel
theorem d_law_37 : decode code 37 = .ok (.aload_n 0, 1) := by decide +kernel
theorem d_law_38 : decode code 38 = .ok (.iconst 1, 1) := by decide +kernel
theorem d_law_39 : decode code 39 = .ok (.invokestatic 57, 3) := by decide +kernel
theorem d_law_42 : decode code 42 = .ok (.aload_n 0, 1) := by decide +kernel
theorem d_law_43 : decode code 43 = .ok (.iconst 2, 1) := by decide +kernel
theorem d_law_44 : decode code 44 = .ok (.invokestatic 57, 3) := by decide +kernel
theorem d_law_47 : decode code 47 = .ok (.aload_n 0, 1) := by decide +kernel
theorem d_law_48 : decode code 48 = .ok (.iconst 3, 1) := by decide +kernel
theorem d_law_49 : decode code 49 = .ok (.invokestatic 57, 3) := by decide +kernel
theorem d_law_52 : decode code 52 = .ok (.invokespecial 68, 3) := by decide +kernel
theorem d_law_55 : decode code 55 = .ok (.astore_n 2, 1) := by decide +kernel
theorem d_law_56 : decode code 56 = .ok (.iconst 1, 1) := by decide +kernel
theorem d_law_57 : decode code 57 = .ok (.newarray .long, 2) := by decide +kernel
theorem d_law_59 : decode code 59 = .ok (.astore_n 3, 1) := by decide +kernel
theorem d_law_60 : decode code 60 = .ok (.iconst 4, 1) := by decide +kernel
theorem d_law_61 : decode code 61 = .ok (.istore 4, 2) := by decide +kernel
theorem d_law_63 : decode code 63 = .ok (.iload 4, 2) := by decide +kernel
theorem d_law_65 : decode code 65 = .ok (.aload_n 0, 1) := by decide +kernel
theorem d_law_66 : decode code 66 = .ok (.arraylength, 1) := by decide +kernel
theorem d_law_67 : decode code 67 = .ok (.iconst 4, 1) := by decide +kernel
theorem d_law_68 : decode code 68 = .ok (.isub, 1) := by decide +kernel
theorem d_law_69 : decode code 69 = .ok (.if_icmp .gt 995, 3) := by decide +kernel
theorem d_law_72 : decode code 72 = .ok (.aload_n 0, 1) := by decide +kernel
theorem d_law_73 : decode code 73 = .ok (.iload 4, 2) := by decide +kernel
theorem d_law_75 : decode code 75 = .ok (.iaload, 1) := by decide +kernel
theorem d_law_76 : decode code 76 = .ok (.bipush 31, 2) := by decide +kernel
theorem d_law_78 : decode code 78 = .ok (.iand, 1) := by decide +kernel
theorem d_law_79 : decode code 79 = .ok (.tableswitch 979 0 18 #[89, 114, 190, 250, 294, 354, 402, 465, 528, 615, 678, 765, 809, 853, 866, 891, 928, 953, 966], 89) := by decide +kernel
theorem d_law_168 : decode code 168 = .ok (.aload_n 1, 1) := by decide +kernel
theorem d_law_169 : decode code 169 = .ok (.aload_n 0, 1) := by decide +kernel
theorem d_law_170 : decode code 170 = .ok (.iload 4, 2) := by decide +kernel
theorem d_law_172 : decode code 172 = .ok (.iconst 1, 1) := by decide +kernel
theorem d_law_173 : decode code 173 = .ok (.iadd, 1) := by decide +kernel
theorem d_law_174 : decode code 174 = .ok (.iaload, 1) := by decide +kernel
theorem d_law_175 : decode code 175 = .ok (.invokevirtual 69, 3) := by decide +kernel
theorem d_law_178 : decode code 178 = .ok (.aload_n 2, 1) := by decide +kernel
theorem d_law_179 : decode code 179 = .ok (.aload_n 0, 1) := by decide +kernel
theorem d_law_180 : decode code 180 = .ok (.iload 4, 2) := by decide +kernel
theorem d_law_182 : decode code 182 = .ok (.iconst 1, 1) := by decide +kernel
theorem d_law_183 : decode code 183 = .ok (.iadd, 1) := by decide +kernel
theorem d_law_184 : decode code 184 = .ok (.iaload, 1) := by decide +kernel
theorem d_law_185 : decode code 185 = .ok (.invokevirtual 73, 3) := by decide +kernel
theorem d_law_188 : decode code 188 = .ok (.if_icmp .eq 870, 3) := by decide +kernel
theorem d_law_191 : decode code 191 = .ok (.iconst 0, 1) := by decide +kernel
theorem d_law_192 : decode code 192 = .ok (.ireturn, 1) := by decide +kernel
theorem d_law_193 : decode code 193 = .ok (.aload_n 1, 1) := by decide +kernel
theorem d_law_194 : decode code 194 = .ok (.aload_n 0, 1) := by decide +kernel
theorem d_law_195 : decode code 195 = .ok (.iload 4, 2) := by decide +kernel
theorem d_law_197 : decode code 197 = .ok (.iconst 1, 1) := by decide +kernel
theorem d_law_198 : decode code 198 = .ok (.iadd, 1) := by decide +kernel
theorem d_law_199 : decode code 199 = .ok (.iaload, 1) := by decide +kernel
theorem d_law_200 : decode code 200 = .ok (.aload_n 0, 1) := by decide +kernel
theorem d_law_201 : decode code 201 = .ok (.iload 4, 2) := by decide +kernel
theorem d_law_203 : decode code 203 = .ok (.iconst 2, 1) := by decide +kernel
theorem d_law_204 : decode code 204 = .ok (.iadd, 1) := by decide +kernel
theorem d_law_205 : decode code 205 = .ok (.iaload, 1) := by decide +kernel
theorem d_law_206 : decode code 206 = .ok (.aload_n 0, 1) := by decide +kernel
theorem d_law_207 : decode code 207 = .ok (.iload 4, 2) := by decide +kernel
theorem d_law_209 : decode code 209 = .ok (.iconst 3, 1) := by decide +kernel
theorem d_law_210 : decode code 210 = .ok (.iadd, 1) := by decide +kernel
theorem d_law_211 : decode code 211 = .ok (.iaload, 1) := by decide +kernel
theorem d_law_212 : decode code 212 = .ok (.ifCond .eq 7, 3) := by decide +kernel
theorem d_law_215 : decode code 215 = .ok (.iconst 1, 1) := by decide +kernel
theorem d_law_216 : decode code 216 = .ok (.goto 4, 3) := by decide +kernel
theorem d_law_219 : decode code 219 = .ok (.iconst 0, 1) := by decide +kernel
theorem d_law_220 : decode code 220 = .ok (.invokestatic 74, 3) := by decide +kernel
theorem d_law_223 : decode code 223 = .ok (.istore 5, 2) := by decide +kernel
theorem d_law_225 : decode code 225 = .ok (.aload_n 2, 1) := by decide +kernel
theorem d_law_226 : decode code 226 = .ok (.aload_n 0, 1) := by decide +kernel
theorem d_law_227 : decode code 227 = .ok (.iload 4, 2) := by decide +kernel
theorem d_law_229 : decode code 229 = .ok (.iconst 1, 1) := by decide +kernel
theorem d_law_230 : decode code 230 = .ok (.iadd, 1) := by decide +kernel
theorem d_law_231 : decode code 231 = .ok (.iaload, 1) := by decide +kernel
theorem d_law_232 : decode code 232 = .ok (.aload_n 0, 1) := by decide +kernel
theorem d_law_233 : decode code 233 = .ok (.iload 4, 2) := by decide +kernel
theorem d_law_235 : decode code 235 = .ok (.iconst 2, 1) := by decide +kernel
theorem d_law_236 : decode code 236 = .ok (.iadd, 1) := by decide +kernel
theorem d_law_237 : decode code 237 = .ok (.iaload, 1) := by decide +kernel
theorem d_law_238 : decode code 238 = .ok (.aload_n 0, 1) := by decide +kernel
theorem d_law_239 : decode code 239 = .ok (.iload 4, 2) := by decide +kernel
theorem d_law_241 : decode code 241 = .ok (.iconst 3, 1) := by decide +kernel
theorem d_law_242 : decode code 242 = .ok (.iadd, 1) := by decide +kernel
theorem d_law_243 : decode code 243 = .ok (.iaload, 1) := by decide +kernel
theorem d_law_244 : decode code 244 = .ok (.ifCond .eq 7, 3) := by decide +kernel
theorem d_law_247 : decode code 247 = .ok (.iconst 1, 1) := by decide +kernel
theorem d_law_248 : decode code 248 = .ok (.goto 4, 3) := by decide +kernel
theorem d_law_251 : decode code 251 = .ok (.iconst 0, 1) := by decide +kernel
theorem d_law_252 : decode code 252 = .ok (.invokevirtual 77, 3) := by decide +kernel
theorem d_law_255 : decode code 255 = .ok (.aload_n 2, 1) := by decide +kernel
theorem d_law_256 : decode code 256 = .ok (.invokevirtual 78, 3) := by decide +kernel
theorem d_law_259 : decode code 259 = .ok (.iload 5, 2) := by decide +kernel
theorem d_law_261 : decode code 261 = .ok (.if_icmp .eq 5, 3) := by decide +kernel
theorem d_law_264 : decode code 264 = .ok (.iconst 0, 1) := by decide +kernel
theorem d_law_265 : decode code 265 = .ok (.ireturn, 1) := by decide +kernel
theorem d_law_266 : decode code 266 = .ok (.goto 792, 3) := by decide +kernel
theorem d_law_269 : decode code 269 = .ok (.aload_n 1, 1) := by decide +kernel
theorem d_law_270 : decode code 270 = .ok (.aload_n 0, 1) := by decide +kernel
theorem d_law_271 : decode code 271 = .ok (.iload 4, 2) := by decide +kernel
theorem d_law_273 : decode code 273 = .ok (.iconst 1, 1) := by decide +kernel
theorem d_law_274 : decode code 274 = .ok (.iadd, 1) := by decide +kernel
theorem d_law_275 : decode code 275 = .ok (.iaload, 1) := by decide +kernel
theorem d_law_276 : decode code 276 = .ok (.aload_n 0, 1) := by decide +kernel
theorem d_law_277 : decode code 277 = .ok (.iload 4, 2) := by decide +kernel
theorem d_law_279 : decode code 279 = .ok (.iconst 2, 1) := by decide +kernel
theorem d_law_280 : decode code 280 = .ok (.iadd, 1) := by decide +kernel
theorem d_law_281 : decode code 281 = .ok (.iaload, 1) := by decide +kernel
theorem d_law_282 : decode code 282 = .ok (.aload_n 0, 1) := by decide +kernel
theorem d_law_283 : decode code 283 = .ok (.iload 4, 2) := by decide +kernel
theorem d_law_285 : decode code 285 = .ok (.iconst 3, 1) := by decide +kernel
theorem d_law_286 : decode code 286 = .ok (.iadd, 1) := by decide +kernel
theorem d_law_287 : decode code 287 = .ok (.iaload, 1) := by decide +kernel
theorem d_law_288 : decode code 288 = .ok (.invokestatic 81, 3) := by decide +kernel
theorem d_law_291 : decode code 291 = .ok (.istore 5, 2) := by decide +kernel
theorem d_law_293 : decode code 293 = .ok (.aload_n 2, 1) := by decide +kernel
theorem d_law_294 : decode code 294 = .ok (.aload_n 0, 1) := by decide +kernel
theorem d_law_295 : decode code 295 = .ok (.iload 4, 2) := by decide +kernel
theorem d_law_297 : decode code 297 = .ok (.iconst 1, 1) := by decide +kernel
theorem d_law_298 : decode code 298 = .ok (.iadd, 1) := by decide +kernel
theorem d_law_299 : decode code 299 = .ok (.iaload, 1) := by decide +kernel
theorem d_law_300 : decode code 300 = .ok (.aload_n 0, 1) := by decide +kernel
theorem d_law_301 : decode code 301 = .ok (.iload 4, 2) := by decide +kernel
theorem d_law_303 : decode code 303 = .ok (.iconst 2, 1) := by decide +kernel
theorem d_law_304 : decode code 304 = .ok (.iadd, 1) := by decide +kernel
theorem d_law_305 : decode code 305 = .ok (.iaload, 1) := by decide +kernel
theorem d_law_306 : decode code 306 = .ok (.aload_n 0, 1) := by decide +kernel
theorem d_law_307 : decode code 307 = .ok (.iload 4, 2) := by decide +kernel
theorem d_law_309 : decode code 309 = .ok (.iconst 3, 1) := by decide +kernel
theorem d_law_310 : decode code 310 = .ok (.iadd, 1) := by decide +kernel
theorem d_law_311 : decode code 311 = .ok (.iaload, 1) := by decide +kernel
theorem d_law_312 : decode code 312 = .ok (.invokevirtual 84, 3) := by decide +kernel
theorem d_law_315 : decode code 315 = .ok (.aload_n 2, 1) := by decide +kernel
theorem d_law_316 : decode code 316 = .ok (.invokevirtual 78, 3) := by decide +kernel
theorem d_law_319 : decode code 319 = .ok (.iload 5, 2) := by decide +kernel
theorem d_law_321 : decode code 321 = .ok (.if_icmp .eq 5, 3) := by decide +kernel
theorem d_law_324 : decode code 324 = .ok (.iconst 0, 1) := by decide +kernel
theorem d_law_325 : decode code 325 = .ok (.ireturn, 1) := by decide +kernel
theorem d_law_326 : decode code 326 = .ok (.goto 732, 3) := by decide +kernel
theorem d_law_329 : decode code 329 = .ok (.aload_n 1, 1) := by decide +kernel
theorem d_law_330 : decode code 330 = .ok (.aload_n 3, 1) := by decide +kernel
