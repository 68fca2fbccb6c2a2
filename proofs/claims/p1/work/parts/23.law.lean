theorem kL_0 : Ok ML 0 (oNO 4 9 [.null, .null, .null, .null, .null, .int 0, .int 0, .int 0, .int 0] 3) := r_new (idx := 7) (fs := [.null, .null, .null, .null, .null, .int 0, .int 0, .int 0, .int 0]) (by decide +kernel) cd_4 w_80 (fun S j hj => by
  have : j < 9 := hj
  match j, this with
  | 0, _ => rfl
  | 1, _ => rfl
  | 2, _ => rfl
  | 3, _ => rfl
  | 4, _ => rfl
  | 5, _ => rfl
  | 6, _ => rfl
  | 7, _ => rfl
  | 8, _ => rfl
  | (j + 9), h => exact absurd h (by omega))
theorem kL_3 : Ok ML 3 (oS gDu 4) := r_dup (by decide +kernel)
theorem kL_4 : Ok ML 4 (oCI 62 0) := r_callI (idx := 9) (by decide +kernel) w_82 cn_62
theorem kL_7 : Ok ML 7 (oSA 1 4 8) := r_astore_n (j := 1) (by decide +kernel) rfl
theorem kL_8 : Ok ML 8 (oNO 5 20 [.null, .int 0, .null, .null, .int 0, .null, .int 0, .int 0, .int 0, .int 0, .int 0, .int 0, .null, .null, .null, .null, .null, .int 0, .null, .int 0] 11) := r_new (idx := 10) (fs := [.null, .int 0, .null, .null, .int 0, .null, .int 0, .int 0, .int 0, .int 0, .int 0, .int 0, .null, .null, .null, .null, .null, .int 0, .null, .int 0]) (by decide +kernel) cd_5 w_672 (fun S j hj => by
  have : j < 20 := hj
  match j, this with
  | 0, _ => rfl
  | 1, _ => rfl
  | 2, _ => rfl
  | 3, _ => rfl
  | 4, _ => rfl
  | 5, _ => rfl
  | 6, _ => rfl
  | 7, _ => rfl
  | 8, _ => rfl
  | 9, _ => rfl
  | 10, _ => rfl
  | 11, _ => rfl
  | 12, _ => rfl
  | 13, _ => rfl
  | 14, _ => rfl
  | 15, _ => rfl
  | 16, _ => rfl
  | 17, _ => rfl
  | 18, _ => rfl
  | 19, _ => rfl
  | (j + 20), h => exact absurd h (by omega))
theorem kL_11 : Ok ML 11 (oS gDu 12) := r_dup (by decide +kernel)
theorem kL_12 : Ok ML 12 (oCI 95 0) := r_callI (idx := 12) (by decide +kernel) w_674 cn_95
theorem kL_15 : Ok ML 15 (oSA 2 4 16) := r_astore_n (j := 2) (by decide +kernel) rfl
theorem kL_16 : Ok ML 16 (oS (gKo (.int 0)) 17) := r_iconst (n := 0) (by decide +kernel) (by decide +kernel)
theorem kL_17 : Ok ML 17 (oSI 3 4 18) := r_istore_n (j := 3) (by decide +kernel) rfl
theorem kL_18 : Ok ML 18 (oLI 3 19) := r_iload_n (j := 3) (by decide +kernel) rfl
theorem kL_19 : Ok ML 19 (oLA 0 20) := r_aload_n (j := 0) (by decide +kernel) rfl
theorem kL_21 : Ok ML 21 (oS (gKo (.int 4)) 22) := r_iconst (n := 4) (by decide +kernel) (by decide +kernel)
theorem kL_22 : Ok ML 22 (oS (gI2 f_isub) 23) := r_isub (by decide +kernel)
theorem kL_23 : Ok ML 23 (oB2 b_icmp_gt q_gt 780 26) := r_icmp_gt (off := 757) (by decide +kernel) (by decide +kernel)
theorem kL_26 : Ok ML 26 (oLA 0 27) := r_aload_n (j := 0) (by decide +kernel) rfl
theorem kL_27 : Ok ML 27 (oLI 3 28) := r_iload_n (j := 3) (by decide +kernel) rfl
theorem kL_29 : Ok ML 29 (oS (gKo (.int 31)) 31) := r_bipush (n := 31) (by decide +kernel) (by decide +kernel)
theorem kL_32 : Ok ML 32 (oTb [148, 171, 184, 197, 220, 253, 286, 319, 342, 385, 418, 441, 474, 507, 530, 553, 576, 589, 612, 645, 668, 691, 724, 737, 760] 774) := r_table (dflt := 742) (hi := 24) (offs := #[116, 139, 152, 165, 188, 221, 254, 287, 310, 353, 386, 409, 442, 475, 498, 521, 544, 557, 580, 613, 636, 659, 692, 705, 728]) (len := 116) (by decide +kernel) (by decide +kernel) (by decide +kernel) (by decide +kernel)
theorem kL_148 : Ok ML 148 (oLA 1 149) := r_aload_n (j := 1) (by decide +kernel) rfl
theorem kL_149 : Ok ML 149 (oLA 0 150) := r_aload_n (j := 0) (by decide +kernel) rfl
theorem kL_150 : Ok ML 150 (oLI 3 151) := r_iload_n (j := 3) (by decide +kernel) rfl
theorem kL_151 : Ok ML 151 (oS (gKo (.int 1)) 152) := r_iconst (n := 1) (by decide +kernel) (by decide +kernel)
theorem kL_152 : Ok ML 152 (oS (gI2 f_iadd) 153) := r_iadd (by decide +kernel)
theorem kL_154 : Ok ML 154 (oCV 4 63 1) := r_callV (idx := 13) (by decide +kernel) w_306 cv_63
theorem kL_157 : Ok ML 157 (oLA 2 158) := r_aload_n (j := 2) (by decide +kernel) rfl
theorem kL_158 : Ok ML 158 (oLA 0 159) := r_aload_n (j := 0) (by decide +kernel) rfl
theorem kL_159 : Ok ML 159 (oLI 3 160) := r_iload_n (j := 3) (by decide +kernel) rfl
theorem kL_160 : Ok ML 160 (oS (gKo (.int 1)) 161) := r_iconst (n := 1) (by decide +kernel) (by decide +kernel)
theorem kL_161 : Ok ML 161 (oS (gI2 f_iadd) 162) := r_iadd (by decide +kernel)
theorem kL_163 : Ok ML 163 (oCV 5 105 1) := r_callV (idx := 17) (by decide +kernel) w_739 cv_105
theorem kL_166 : Ok ML 166 (oB2 b_icmp_eq q_eq 774 169) := r_icmp_eq (off := 608) (by decide +kernel) (by decide +kernel)
theorem kL_169 : Ok ML 169 (oS (gKo (.int 0)) 170) := r_iconst (n := 0) (by decide +kernel) (by decide +kernel)
theorem kL_171 : Ok ML 171 (oLA 1 172) := r_aload_n (j := 1) (by decide +kernel) rfl
theorem kL_172 : Ok ML 172 (oCV 4 64 0) := r_callV (idx := 18) (by decide +kernel) w_322 cv_64
theorem kL_175 : Ok ML 175 (oLA 2 176) := r_aload_n (j := 2) (by decide +kernel) rfl
theorem kL_176 : Ok ML 176 (oCV 5 106 0) := r_callV (idx := 22) (by decide +kernel) w_751 cv_106
theorem kL_179 : Ok ML 179 (oB2 b_icmp_eq q_eq 774 182) := r_icmp_eq (off := 595) (by decide +kernel) (by decide +kernel)
theorem kL_182 : Ok ML 182 (oS (gKo (.int 0)) 183) := r_iconst (n := 0) (by decide +kernel) (by decide +kernel)
theorem kL_184 : Ok ML 184 (oLA 1 185) := r_aload_n (j := 1) (by decide +kernel) rfl
theorem kL_185 : Ok ML 185 (oCV 4 65 0) := r_callV (idx := 23) (by decide +kernel) w_330 cv_65
theorem kL_188 : Ok ML 188 (oLA 2 189) := r_aload_n (j := 2) (by decide +kernel) rfl
theorem kL_189 : Ok ML 189 (oCV 5 119 0) := r_callV (idx := 26) (by decide +kernel) w_755 cv_119
theorem kL_192 : Ok ML 192 (oB2 b_icmp_eq q_eq 774 195) := r_icmp_eq (off := 582) (by decide +kernel) (by decide +kernel)
theorem kL_195 : Ok ML 195 (oS (gKo (.int 0)) 196) := r_iconst (n := 0) (by decide +kernel) (by decide +kernel)
theorem kL_197 : Ok ML 197 (oLA 1 198) := r_aload_n (j := 1) (by decide +kernel) rfl
theorem kL_198 : Ok ML 198 (oLA 0 199) := r_aload_n (j := 0) (by decide +kernel) rfl
theorem kL_199 : Ok ML 199 (oLI 3 200) := r_iload_n (j := 3) (by decide +kernel) rfl
theorem kL_200 : Ok ML 200 (oS (gKo (.int 1)) 201) := r_iconst (n := 1) (by decide +kernel) (by decide +kernel)
theorem kL_201 : Ok ML 201 (oS (gI2 f_iadd) 202) := r_iadd (by decide +kernel)
theorem kL_203 : Ok ML 203 (oCV 4 66 1) := r_callV (idx := 27) (by decide +kernel) w_420 cv_66
theorem kL_206 : Ok ML 206 (oLA 2 207) := r_aload_n (j := 2) (by decide +kernel) rfl
theorem kL_207 : Ok ML 207 (oLA 0 208) := r_aload_n (j := 0) (by decide +kernel) rfl
theorem kL_208 : Ok ML 208 (oLI 3 209) := r_iload_n (j := 3) (by decide +kernel) rfl
theorem kL_209 : Ok ML 209 (oS (gKo (.int 1)) 210) := r_iconst (n := 1) (by decide +kernel) (by decide +kernel)
theorem kL_210 : Ok ML 210 (oS (gI2 f_iadd) 211) := r_iadd (by decide +kernel)
theorem kL_212 : Ok ML 212 (oCV 5 121 1) := r_callV (idx := 30) (by decide +kernel) w_827 cv_121
theorem kL_215 : Ok ML 215 (oB2 b_icmp_eq q_eq 774 218) := r_icmp_eq (off := 559) (by decide +kernel) (by decide +kernel)
theorem kL_218 : Ok ML 218 (oS (gKo (.int 0)) 219) := r_iconst (n := 0) (by decide +kernel) (by decide +kernel)
theorem kL_220 : Ok ML 220 (oLA 1 221) := r_aload_n (j := 1) (by decide +kernel) rfl
theorem kL_221 : Ok ML 221 (oLA 0 222) := r_aload_n (j := 0) (by decide +kernel) rfl
theorem kL_222 : Ok ML 222 (oLI 3 223) := r_iload_n (j := 3) (by decide +kernel) rfl
theorem kL_223 : Ok ML 223 (oS (gKo (.int 1)) 224) := r_iconst (n := 1) (by decide +kernel) (by decide +kernel)
theorem kL_224 : Ok ML 224 (oS (gI2 f_iadd) 225) := r_iadd (by decide +kernel)
theorem kL_226 : Ok ML 226 (oLA 0 227) := r_aload_n (j := 0) (by decide +kernel) rfl
theorem kL_227 : Ok ML 227 (oLI 3 228) := r_iload_n (j := 3) (by decide +kernel) rfl
theorem kL_228 : Ok ML 228 (oS (gKo (.int 2)) 229) := r_iconst (n := 2) (by decide +kernel) (by decide +kernel)
theorem kL_229 : Ok ML 229 (oS (gI2 f_iadd) 230) := r_iadd (by decide +kernel)
theorem kL_231 : Ok ML 231 (oCV 4 67 2) := r_callV (idx := 31) (by decide +kernel) w_424 cv_67
theorem kL_234 : Ok ML 234 (oLA 2 235) := r_aload_n (j := 2) (by decide +kernel) rfl
theorem kL_235 : Ok ML 235 (oLA 0 236) := r_aload_n (j := 0) (by decide +kernel) rfl
theorem kL_236 : Ok ML 236 (oLI 3 237) := r_iload_n (j := 3) (by decide +kernel) rfl
theorem kL_237 : Ok ML 237 (oS (gKo (.int 1)) 238) := r_iconst (n := 1) (by decide +kernel) (by decide +kernel)
theorem kL_238 : Ok ML 238 (oS (gI2 f_iadd) 239) := r_iadd (by decide +kernel)
theorem kL_240 : Ok ML 240 (oLA 0 241) := r_aload_n (j := 0) (by decide +kernel) rfl
theorem kL_241 : Ok ML 241 (oLI 3 242) := r_iload_n (j := 3) (by decide +kernel) rfl
theorem kL_242 : Ok ML 242 (oS (gKo (.int 2)) 243) := r_iconst (n := 2) (by decide +kernel) (by decide +kernel)
theorem kL_243 : Ok ML 243 (oS (gI2 f_iadd) 244) := r_iadd (by decide +kernel)
theorem kL_245 : Ok ML 245 (oCV 5 132 2) := r_callV (idx := 35) (by decide +kernel) w_856 cv_132
theorem kL_248 : Ok ML 248 (oB2 b_icmp_eq q_eq 774 251) := r_icmp_eq (off := 526) (by decide +kernel) (by decide +kernel)
theorem kL_251 : Ok ML 251 (oS (gKo (.int 0)) 252) := r_iconst (n := 0) (by decide +kernel) (by decide +kernel)
theorem kL_253 : Ok ML 253 (oLA 1 254) := r_aload_n (j := 1) (by decide +kernel) rfl
theorem kL_254 : Ok ML 254 (oLA 0 255) := r_aload_n (j := 0) (by decide +kernel) rfl
theorem kL_255 : Ok ML 255 (oLI 3 256) := r_iload_n (j := 3) (by decide +kernel) rfl
theorem kL_256 : Ok ML 256 (oS (gKo (.int 1)) 257) := r_iconst (n := 1) (by decide +kernel) (by decide +kernel)
theorem kL_257 : Ok ML 257 (oS (gI2 f_iadd) 258) := r_iadd (by decide +kernel)
theorem kL_259 : Ok ML 259 (oLA 0 260) := r_aload_n (j := 0) (by decide +kernel) rfl
theorem kL_260 : Ok ML 260 (oLI 3 261) := r_iload_n (j := 3) (by decide +kernel) rfl
theorem kL_261 : Ok ML 261 (oS (gKo (.int 2)) 262) := r_iconst (n := 2) (by decide +kernel) (by decide +kernel)
theorem kL_262 : Ok ML 262 (oS (gI2 f_iadd) 263) := r_iadd (by decide +kernel)
theorem kL_264 : Ok ML 264 (oCV 4 68 2) := r_callV (idx := 36) (by decide +kernel) w_433 cv_68
theorem kL_267 : Ok ML 267 (oLA 2 268) := r_aload_n (j := 2) (by decide +kernel) rfl
theorem kL_268 : Ok ML 268 (oLA 0 269) := r_aload_n (j := 0) (by decide +kernel) rfl
theorem kL_269 : Ok ML 269 (oLI 3 270) := r_iload_n (j := 3) (by decide +kernel) rfl
theorem kL_270 : Ok ML 270 (oS (gKo (.int 1)) 271) := r_iconst (n := 1) (by decide +kernel) (by decide +kernel)
theorem kL_271 : Ok ML 271 (oS (gI2 f_iadd) 272) := r_iadd (by decide +kernel)
theorem kL_273 : Ok ML 273 (oLA 0 274) := r_aload_n (j := 0) (by decide +kernel) rfl
theorem kL_274 : Ok ML 274 (oLI 3 275) := r_iload_n (j := 3) (by decide +kernel) rfl
theorem kL_275 : Ok ML 275 (oS (gKo (.int 2)) 276) := r_iconst (n := 2) (by decide +kernel) (by decide +kernel)
theorem kL_276 : Ok ML 276 (oS (gI2 f_iadd) 277) := r_iadd (by decide +kernel)
theorem kL_278 : Ok ML 278 (oCV 5 134 2) := r_callV (idx := 39) (by decide +kernel) w_868 cv_134
theorem kL_281 : Ok ML 281 (oB2 b_icmp_eq q_eq 774 284) := r_icmp_eq (off := 493) (by decide +kernel) (by decide +kernel)
theorem kL_284 : Ok ML 284 (oS (gKo (.int 0)) 285) := r_iconst (n := 0) (by decide +kernel) (by decide +kernel)
theorem kL_286 : Ok ML 286 (oLA 1 287) := r_aload_n (j := 1) (by decide +kernel) rfl
theorem kL_287 : Ok ML 287 (oLA 0 288) := r_aload_n (j := 0) (by decide +kernel) rfl
theorem kL_288 : Ok ML 288 (oLI 3 289) := r_iload_n (j := 3) (by decide +kernel) rfl
theorem kL_289 : Ok ML 289 (oS (gKo (.int 1)) 290) := r_iconst (n := 1) (by decide +kernel) (by decide +kernel)
theorem kL_290 : Ok ML 290 (oS (gI2 f_iadd) 291) := r_iadd (by decide +kernel)
theorem kL_292 : Ok ML 292 (oLA 0 293) := r_aload_n (j := 0) (by decide +kernel) rfl
theorem kL_293 : Ok ML 293 (oLI 3 294) := r_iload_n (j := 3) (by decide +kernel) rfl
theorem kL_294 : Ok ML 294 (oS (gKo (.int 2)) 295) := r_iconst (n := 2) (by decide +kernel) (by decide +kernel)
theorem kL_295 : Ok ML 295 (oS (gI2 f_iadd) 296) := r_iadd (by decide +kernel)
theorem kL_297 : Ok ML 297 (oCV 4 69 2) := r_callV (idx := 40) (by decide +kernel) w_461 cv_69
theorem kL_300 : Ok ML 300 (oLA 2 301) := r_aload_n (j := 2) (by decide +kernel) rfl
theorem kL_301 : Ok ML 301 (oLA 0 302) := r_aload_n (j := 0) (by decide +kernel) rfl
theorem kL_302 : Ok ML 302 (oLI 3 303) := r_iload_n (j := 3) (by decide +kernel) rfl
theorem kL_303 : Ok ML 303 (oS (gKo (.int 1)) 304) := r_iconst (n := 1) (by decide +kernel) (by decide +kernel)
theorem kL_304 : Ok ML 304 (oS (gI2 f_iadd) 305) := r_iadd (by decide +kernel)
theorem kL_306 : Ok ML 306 (oLA 0 307) := r_aload_n (j := 0) (by decide +kernel) rfl
theorem kL_307 : Ok ML 307 (oLI 3 308) := r_iload_n (j := 3) (by decide +kernel) rfl
theorem kL_308 : Ok ML 308 (oS (gKo (.int 2)) 309) := r_iconst (n := 2) (by decide +kernel) (by decide +kernel)
theorem kL_309 : Ok ML 309 (oS (gI2 f_iadd) 310) := r_iadd (by decide +kernel)
theorem kL_311 : Ok ML 311 (oCV 5 135 2) := r_callV (idx := 43) (by decide +kernel) w_897 cv_135
theorem kL_314 : Ok ML 314 (oB2 b_icmp_eq q_eq 774 317) := r_icmp_eq (off := 460) (by decide +kernel) (by decide +kernel)
theorem kL_317 : Ok ML 317 (oS (gKo (.int 0)) 318) := r_iconst (n := 0) (by decide +kernel) (by decide +kernel)
theorem kL_319 : Ok ML 319 (oLA 1 320) := r_aload_n (j := 1) (by decide +kernel) rfl
theorem kL_320 : Ok ML 320 (oLA 0 321) := r_aload_n (j := 0) (by decide +kernel) rfl
theorem kL_321 : Ok ML 321 (oLI 3 322) := r_iload_n (j := 3) (by decide +kernel) rfl
theorem kL_322 : Ok ML 322 (oS (gKo (.int 1)) 323) := r_iconst (n := 1) (by decide +kernel) (by decide +kernel)
theorem kL_323 : Ok ML 323 (oS (gI2 f_iadd) 324) := r_iadd (by decide +kernel)
theorem kL_325 : Ok ML 325 (oCV 4 70 1) := r_callV (idx := 44) (by decide +kernel) w_466 cv_70
theorem kL_328 : Ok ML 328 (oLA 2 329) := r_aload_n (j := 2) (by decide +kernel) rfl
theorem kL_329 : Ok ML 329 (oLA 0 330) := r_aload_n (j := 0) (by decide +kernel) rfl
theorem kL_330 : Ok ML 330 (oLI 3 331) := r_iload_n (j := 3) (by decide +kernel) rfl
theorem kL_331 : Ok ML 331 (oS (gKo (.int 1)) 332) := r_iconst (n := 1) (by decide +kernel) (by decide +kernel)
theorem kL_332 : Ok ML 332 (oS (gI2 f_iadd) 333) := r_iadd (by decide +kernel)
theorem kL_334 : Ok ML 334 (oCV 5 127 1) := r_callV (idx := 47) (by decide +kernel) w_832 cv_127
theorem kL_337 : Ok ML 337 (oB2 b_icmp_eq q_eq 774 340) := r_icmp_eq (off := 437) (by decide +kernel) (by decide +kernel)
theorem kL_340 : Ok ML 340 (oS (gKo (.int 0)) 341) := r_iconst (n := 0) (by decide +kernel) (by decide +kernel)
theorem kL_342 : Ok ML 342 (oLA 1 343) := r_aload_n (j := 1) (by decide +kernel) rfl
theorem kL_343 : Ok ML 343 (oLA 0 344) := r_aload_n (j := 0) (by decide +kernel) rfl
theorem kL_344 : Ok ML 344 (oLI 3 345) := r_iload_n (j := 3) (by decide +kernel) rfl
theorem kL_345 : Ok ML 345 (oS (gKo (.int 1)) 346) := r_iconst (n := 1) (by decide +kernel) (by decide +kernel)
theorem kL_346 : Ok ML 346 (oS (gI2 f_iadd) 347) := r_iadd (by decide +kernel)
theorem kL_348 : Ok ML 348 (oLA 0 349) := r_aload_n (j := 0) (by decide +kernel) rfl
theorem kL_349 : Ok ML 349 (oLI 3 350) := r_iload_n (j := 3) (by decide +kernel) rfl
theorem kL_350 : Ok ML 350 (oS (gKo (.int 2)) 351) := r_iconst (n := 2) (by decide +kernel) (by decide +kernel)
theorem kL_351 : Ok ML 351 (oS (gI2 f_iadd) 352) := r_iadd (by decide +kernel)
theorem kL_353 : Ok ML 353 (oLA 0 354) := r_aload_n (j := 0) (by decide +kernel) rfl
theorem kL_354 : Ok ML 354 (oLI 3 355) := r_iload_n (j := 3) (by decide +kernel) rfl
theorem kL_355 : Ok ML 355 (oS (gKo (.int 3)) 356) := r_iconst (n := 3) (by decide +kernel) (by decide +kernel)
theorem kL_356 : Ok ML 356 (oS (gI2 f_iadd) 357) := r_iadd (by decide +kernel)
theorem kL_358 : Ok ML 358 (oCV 4 71 3) := r_callV (idx := 48) (by decide +kernel) w_471 cv_71
theorem kL_361 : Ok ML 361 (oLA 2 362) := r_aload_n (j := 2) (by decide +kernel) rfl
theorem kL_362 : Ok ML 362 (oLA 0 363) := r_aload_n (j := 0) (by decide +kernel) rfl
theorem kL_363 : Ok ML 363 (oLI 3 364) := r_iload_n (j := 3) (by decide +kernel) rfl
theorem kL_364 : Ok ML 364 (oS (gKo (.int 1)) 365) := r_iconst (n := 1) (by decide +kernel) (by decide +kernel)
theorem kL_365 : Ok ML 365 (oS (gI2 f_iadd) 366) := r_iadd (by decide +kernel)
theorem kL_367 : Ok ML 367 (oLA 0 368) := r_aload_n (j := 0) (by decide +kernel) rfl
theorem kL_368 : Ok ML 368 (oLI 3 369) := r_iload_n (j := 3) (by decide +kernel) rfl
theorem kL_369 : Ok ML 369 (oS (gKo (.int 2)) 370) := r_iconst (n := 2) (by decide +kernel) (by decide +kernel)
theorem kL_370 : Ok ML 370 (oS (gI2 f_iadd) 371) := r_iadd (by decide +kernel)
theorem kL_372 : Ok ML 372 (oLA 0 373) := r_aload_n (j := 0) (by decide +kernel) rfl
theorem kL_373 : Ok ML 373 (oLI 3 374) := r_iload_n (j := 3) (by decide +kernel) rfl
theorem kL_374 : Ok ML 374 (oS (gKo (.int 3)) 375) := r_iconst (n := 3) (by decide +kernel) (by decide +kernel)
theorem kL_375 : Ok ML 375 (oS (gI2 f_iadd) 376) := r_iadd (by decide +kernel)
theorem kL_377 : Ok ML 377 (oCV 5 136 3) := r_callV (idx := 52) (by decide +kernel) w_901 cv_136
theorem kL_380 : Ok ML 380 (oB2 b_icmp_eq q_eq 774 383) := r_icmp_eq (off := 394) (by decide +kernel) (by decide +kernel)
theorem kL_383 : Ok ML 383 (oS (gKo (.int 0)) 384) := r_iconst (n := 0) (by decide +kernel) (by decide +kernel)
theorem kL_385 : Ok ML 385 (oLA 1 386) := r_aload_n (j := 1) (by decide +kernel) rfl
theorem kL_386 : Ok ML 386 (oLA 0 387) := r_aload_n (j := 0) (by decide +kernel) rfl
theorem kL_387 : Ok ML 387 (oLI 3 388) := r_iload_n (j := 3) (by decide +kernel) rfl
theorem kL_388 : Ok ML 388 (oS (gKo (.int 1)) 389) := r_iconst (n := 1) (by decide +kernel) (by decide +kernel)
theorem kL_389 : Ok ML 389 (oS (gI2 f_iadd) 390) := r_iadd (by decide +kernel)
theorem kL_391 : Ok ML 391 (oLA 0 392) := r_aload_n (j := 0) (by decide +kernel) rfl
theorem kL_392 : Ok ML 392 (oLI 3 393) := r_iload_n (j := 3) (by decide +kernel) rfl
theorem kL_393 : Ok ML 393 (oS (gKo (.int 2)) 394) := r_iconst (n := 2) (by decide +kernel) (by decide +kernel)
theorem kL_394 : Ok ML 394 (oS (gI2 f_iadd) 395) := r_iadd (by decide +kernel)
theorem kL_396 : Ok ML 396 (oCV 4 72 2) := r_callV (idx := 53) (by decide +kernel) w_480 cv_72
theorem kL_399 : Ok ML 399 (oLA 2 400) := r_aload_n (j := 2) (by decide +kernel) rfl
theorem kL_400 : Ok ML 400 (oLA 0 401) := r_aload_n (j := 0) (by decide +kernel) rfl
theorem kL_401 : Ok ML 401 (oLI 3 402) := r_iload_n (j := 3) (by decide +kernel) rfl
theorem kL_402 : Ok ML 402 (oS (gKo (.int 1)) 403) := r_iconst (n := 1) (by decide +kernel) (by decide +kernel)
theorem kL_403 : Ok ML 403 (oS (gI2 f_iadd) 404) := r_iadd (by decide +kernel)
theorem kL_405 : Ok ML 405 (oLA 0 406) := r_aload_n (j := 0) (by decide +kernel) rfl
theorem kL_406 : Ok ML 406 (oLI 3 407) := r_iload_n (j := 3) (by decide +kernel) rfl
theorem kL_407 : Ok ML 407 (oS (gKo (.int 2)) 408) := r_iconst (n := 2) (by decide +kernel) (by decide +kernel)
theorem kL_408 : Ok ML 408 (oS (gI2 f_iadd) 409) := r_iadd (by decide +kernel)
theorem kL_410 : Ok ML 410 (oCV 5 137 2) := r_callV (idx := 56) (by decide +kernel) w_906 cv_137
theorem kL_413 : Ok ML 413 (oB2 b_icmp_eq q_eq 774 416) := r_icmp_eq (off := 361) (by decide +kernel) (by decide +kernel)
theorem kL_416 : Ok ML 416 (oS (gKo (.int 0)) 417) := r_iconst (n := 0) (by decide +kernel) (by decide +kernel)
theorem kL_418 : Ok ML 418 (oLA 1 419) := r_aload_n (j := 1) (by decide +kernel) rfl
theorem kL_419 : Ok ML 419 (oLA 0 420) := r_aload_n (j := 0) (by decide +kernel) rfl
theorem kL_420 : Ok ML 420 (oLI 3 421) := r_iload_n (j := 3) (by decide +kernel) rfl
theorem kL_421 : Ok ML 421 (oS (gKo (.int 1)) 422) := r_iconst (n := 1) (by decide +kernel) (by decide +kernel)
theorem kL_422 : Ok ML 422 (oS (gI2 f_iadd) 423) := r_iadd (by decide +kernel)
theorem kL_424 : Ok ML 424 (oCV 4 73 1) := r_callV (idx := 57) (by decide +kernel) w_484 cv_73
theorem kL_427 : Ok ML 427 (oLA 2 428) := r_aload_n (j := 2) (by decide +kernel) rfl
theorem kL_428 : Ok ML 428 (oLA 0 429) := r_aload_n (j := 0) (by decide +kernel) rfl
theorem kL_429 : Ok ML 429 (oLI 3 430) := r_iload_n (j := 3) (by decide +kernel) rfl
theorem kL_430 : Ok ML 430 (oS (gKo (.int 1)) 431) := r_iconst (n := 1) (by decide +kernel) (by decide +kernel)
theorem kL_431 : Ok ML 431 (oS (gI2 f_iadd) 432) := r_iadd (by decide +kernel)
theorem kL_433 : Ok ML 433 (oCV 5 138 1) := r_callV (idx := 60) (by decide +kernel) w_911 cv_138
theorem kL_436 : Ok ML 436 (oB2 b_icmp_eq q_eq 774 439) := r_icmp_eq (off := 338) (by decide +kernel) (by decide +kernel)
theorem kL_439 : Ok ML 439 (oS (gKo (.int 0)) 440) := r_iconst (n := 0) (by decide +kernel) (by decide +kernel)
theorem kL_441 : Ok ML 441 (oLA 1 442) := r_aload_n (j := 1) (by decide +kernel) rfl
theorem kL_442 : Ok ML 442 (oLA 0 443) := r_aload_n (j := 0) (by decide +kernel) rfl
theorem kL_443 : Ok ML 443 (oLI 3 444) := r_iload_n (j := 3) (by decide +kernel) rfl
theorem kL_444 : Ok ML 444 (oS (gKo (.int 1)) 445) := r_iconst (n := 1) (by decide +kernel) (by decide +kernel)
theorem kL_445 : Ok ML 445 (oS (gI2 f_iadd) 446) := r_iadd (by decide +kernel)
theorem kL_447 : Ok ML 447 (oLA 0 448) := r_aload_n (j := 0) (by decide +kernel) rfl
theorem kL_448 : Ok ML 448 (oLI 3 449) := r_iload_n (j := 3) (by decide +kernel) rfl
theorem kL_449 : Ok ML 449 (oS (gKo (.int 2)) 450) := r_iconst (n := 2) (by decide +kernel) (by decide +kernel)
theorem kL_450 : Ok ML 450 (oS (gI2 f_iadd) 451) := r_iadd (by decide +kernel)
theorem kL_452 : Ok ML 452 (oCV 4 74 2) := r_callV (idx := 61) (by decide +kernel) w_488 cv_74
theorem kL_455 : Ok ML 455 (oLA 2 456) := r_aload_n (j := 2) (by decide +kernel) rfl
theorem kL_456 : Ok ML 456 (oLA 0 457) := r_aload_n (j := 0) (by decide +kernel) rfl
theorem kL_457 : Ok ML 457 (oLI 3 458) := r_iload_n (j := 3) (by decide +kernel) rfl
theorem kL_458 : Ok ML 458 (oS (gKo (.int 1)) 459) := r_iconst (n := 1) (by decide +kernel) (by decide +kernel)
theorem kL_459 : Ok ML 459 (oS (gI2 f_iadd) 460) := r_iadd (by decide +kernel)
theorem kL_461 : Ok ML 461 (oLA 0 462) := r_aload_n (j := 0) (by decide +kernel) rfl
theorem kL_462 : Ok ML 462 (oLI 3 463) := r_iload_n (j := 3) (by decide +kernel) rfl
theorem kL_463 : Ok ML 463 (oS (gKo (.int 2)) 464) := r_iconst (n := 2) (by decide +kernel) (by decide +kernel)
theorem kL_464 : Ok ML 464 (oS (gI2 f_iadd) 465) := r_iadd (by decide +kernel)
theorem kL_466 : Ok ML 466 (oCV 5 140 2) := r_callV (idx := 64) (by decide +kernel) w_916 cv_140
theorem kL_469 : Ok ML 469 (oB2 b_icmp_eq q_eq 774 472) := r_icmp_eq (off := 305) (by decide +kernel) (by decide +kernel)
theorem kL_472 : Ok ML 472 (oS (gKo (.int 0)) 473) := r_iconst (n := 0) (by decide +kernel) (by decide +kernel)
theorem kL_474 : Ok ML 474 (oLA 1 475) := r_aload_n (j := 1) (by decide +kernel) rfl
theorem kL_475 : Ok ML 475 (oLA 0 476) := r_aload_n (j := 0) (by decide +kernel) rfl
theorem kL_476 : Ok ML 476 (oLI 3 477) := r_iload_n (j := 3) (by decide +kernel) rfl
theorem kL_477 : Ok ML 477 (oS (gKo (.int 1)) 478) := r_iconst (n := 1) (by decide +kernel) (by decide +kernel)
theorem kL_478 : Ok ML 478 (oS (gI2 f_iadd) 479) := r_iadd (by decide +kernel)
theorem kL_480 : Ok ML 480 (oLA 0 481) := r_aload_n (j := 0) (by decide +kernel) rfl
theorem kL_481 : Ok ML 481 (oLI 3 482) := r_iload_n (j := 3) (by decide +kernel) rfl
theorem kL_482 : Ok ML 482 (oS (gKo (.int 2)) 483) := r_iconst (n := 2) (by decide +kernel) (by decide +kernel)
theorem kL_483 : Ok ML 483 (oS (gI2 f_iadd) 484) := r_iadd (by decide +kernel)
theorem kL_485 : Ok ML 485 (oCV 4 75 2) := r_callV (idx := 65) (by decide +kernel) w_502 cv_75
theorem kL_488 : Ok ML 488 (oLA 2 489) := r_aload_n (j := 2) (by decide +kernel) rfl
theorem kL_489 : Ok ML 489 (oLA 0 490) := r_aload_n (j := 0) (by decide +kernel) rfl
theorem kL_490 : Ok ML 490 (oLI 3 491) := r_iload_n (j := 3) (by decide +kernel) rfl
theorem kL_491 : Ok ML 491 (oS (gKo (.int 1)) 492) := r_iconst (n := 1) (by decide +kernel) (by decide +kernel)
theorem kL_492 : Ok ML 492 (oS (gI2 f_iadd) 493) := r_iadd (by decide +kernel)
theorem kL_494 : Ok ML 494 (oLA 0 495) := r_aload_n (j := 0) (by decide +kernel) rfl
theorem kL_495 : Ok ML 495 (oLI 3 496) := r_iload_n (j := 3) (by decide +kernel) rfl
theorem kL_496 : Ok ML 496 (oS (gKo (.int 2)) 497) := r_iconst (n := 2) (by decide +kernel) (by decide +kernel)
theorem kL_497 : Ok ML 497 (oS (gI2 f_iadd) 498) := r_iadd (by decide +kernel)
theorem kL_499 : Ok ML 499 (oCV 5 141 2) := r_callV (idx := 68) (by decide +kernel) w_923 cv_141
theorem kL_502 : Ok ML 502 (oB2 b_icmp_eq q_eq 774 505) := r_icmp_eq (off := 272) (by decide +kernel) (by decide +kernel)
theorem kL_505 : Ok ML 505 (oS (gKo (.int 0)) 506) := r_iconst (n := 0) (by decide +kernel) (by decide +kernel)
theorem kL_507 : Ok ML 507 (oLA 1 508) := r_aload_n (j := 1) (by decide +kernel) rfl
theorem kL_508 : Ok ML 508 (oLA 0 509) := r_aload_n (j := 0) (by decide +kernel) rfl
theorem kL_509 : Ok ML 509 (oLI 3 510) := r_iload_n (j := 3) (by decide +kernel) rfl
theorem kL_510 : Ok ML 510 (oS (gKo (.int 1)) 511) := r_iconst (n := 1) (by decide +kernel) (by decide +kernel)
theorem kL_511 : Ok ML 511 (oS (gI2 f_iadd) 512) := r_iadd (by decide +kernel)
theorem kL_513 : Ok ML 513 (oCV 4 76 1) := r_callV (idx := 69) (by decide +kernel) w_518 cv_76
theorem kL_516 : Ok ML 516 (oLA 2 517) := r_aload_n (j := 2) (by decide +kernel) rfl
theorem kL_517 : Ok ML 517 (oLA 0 518) := r_aload_n (j := 0) (by decide +kernel) rfl
theorem kL_518 : Ok ML 518 (oLI 3 519) := r_iload_n (j := 3) (by decide +kernel) rfl
theorem kL_519 : Ok ML 519 (oS (gKo (.int 1)) 520) := r_iconst (n := 1) (by decide +kernel) (by decide +kernel)
theorem kL_520 : Ok ML 520 (oS (gI2 f_iadd) 521) := r_iadd (by decide +kernel)
theorem kL_522 : Ok ML 522 (oCV 5 144 1) := r_callV (idx := 72) (by decide +kernel) w_927 cv_144
theorem kL_525 : Ok ML 525 (oB2 b_icmp_eq q_eq 774 528) := r_icmp_eq (off := 249) (by decide +kernel) (by decide +kernel)
theorem kL_528 : Ok ML 528 (oS (gKo (.int 0)) 529) := r_iconst (n := 0) (by decide +kernel) (by decide +kernel)
theorem kL_530 : Ok ML 530 (oLA 1 531) := r_aload_n (j := 1) (by decide +kernel) rfl
theorem kL_531 : Ok ML 531 (oLA 0 532) := r_aload_n (j := 0) (by decide +kernel) rfl
theorem kL_532 : Ok ML 532 (oLI 3 533) := r_iload_n (j := 3) (by decide +kernel) rfl
theorem kL_533 : Ok ML 533 (oS (gKo (.int 1)) 534) := r_iconst (n := 1) (by decide +kernel) (by decide +kernel)
theorem kL_534 : Ok ML 534 (oS (gI2 f_iadd) 535) := r_iadd (by decide +kernel)
theorem kL_536 : Ok ML 536 (oCV 4 77 1) := r_callV (idx := 73) (by decide +kernel) w_530 cv_77
theorem kL_539 : Ok ML 539 (oLA 2 540) := r_aload_n (j := 2) (by decide +kernel) rfl
theorem kL_540 : Ok ML 540 (oLA 0 541) := r_aload_n (j := 0) (by decide +kernel) rfl
theorem kL_541 : Ok ML 541 (oLI 3 542) := r_iload_n (j := 3) (by decide +kernel) rfl
theorem kL_542 : Ok ML 542 (oS (gKo (.int 1)) 543) := r_iconst (n := 1) (by decide +kernel) (by decide +kernel)
theorem kL_543 : Ok ML 543 (oS (gI2 f_iadd) 544) := r_iadd (by decide +kernel)
theorem kL_545 : Ok ML 545 (oCV 5 146 1) := r_callV (idx := 76) (by decide +kernel) w_939 cv_146
theorem kL_548 : Ok ML 548 (oB2 b_icmp_eq q_eq 774 551) := r_icmp_eq (off := 226) (by decide +kernel) (by decide +kernel)
theorem kL_551 : Ok ML 551 (oS (gKo (.int 0)) 552) := r_iconst (n := 0) (by decide +kernel) (by decide +kernel)
theorem kL_553 : Ok ML 553 (oLA 1 554) := r_aload_n (j := 1) (by decide +kernel) rfl
theorem kL_554 : Ok ML 554 (oLA 0 555) := r_aload_n (j := 0) (by decide +kernel) rfl
theorem kL_555 : Ok ML 555 (oLI 3 556) := r_iload_n (j := 3) (by decide +kernel) rfl
theorem kL_556 : Ok ML 556 (oS (gKo (.int 1)) 557) := r_iconst (n := 1) (by decide +kernel) (by decide +kernel)
theorem kL_557 : Ok ML 557 (oS (gI2 f_iadd) 558) := r_iadd (by decide +kernel)
theorem kL_559 : Ok ML 559 (oCV 4 78 1) := r_callV (idx := 77) (by decide +kernel) w_547 cv_78
theorem kL_562 : Ok ML 562 (oLA 2 563) := r_aload_n (j := 2) (by decide +kernel) rfl
theorem kL_563 : Ok ML 563 (oLA 0 564) := r_aload_n (j := 0) (by decide +kernel) rfl
theorem kL_564 : Ok ML 564 (oLI 3 565) := r_iload_n (j := 3) (by decide +kernel) rfl
theorem kL_565 : Ok ML 565 (oS (gKo (.int 1)) 566) := r_iconst (n := 1) (by decide +kernel) (by decide +kernel)
theorem kL_566 : Ok ML 566 (oS (gI2 f_iadd) 567) := r_iadd (by decide +kernel)
theorem kL_568 : Ok ML 568 (oCV 5 155 1) := r_callV (idx := 80) (by decide +kernel) w_947 cv_155
theorem kL_571 : Ok ML 571 (oB2 b_icmp_eq q_eq 774 574) := r_icmp_eq (off := 203) (by decide +kernel) (by decide +kernel)
theorem kL_574 : Ok ML 574 (oS (gKo (.int 0)) 575) := r_iconst (n := 0) (by decide +kernel) (by decide +kernel)
theorem kL_576 : Ok ML 576 (oLA 1 577) := r_aload_n (j := 1) (by decide +kernel) rfl
theorem kL_577 : Ok ML 577 (oCV 4 79 0) := r_callV (idx := 81) (by decide +kernel) w_584 cv_79
theorem kL_580 : Ok ML 580 (oLA 2 581) := r_aload_n (j := 2) (by decide +kernel) rfl
theorem kL_581 : Ok ML 581 (oCV 5 156 0) := r_callV (idx := 84) (by decide +kernel) w_985 cv_156
theorem kL_584 : Ok ML 584 (oB2 b_icmp_eq q_eq 774 587) := r_icmp_eq (off := 190) (by decide +kernel) (by decide +kernel)
theorem kL_587 : Ok ML 587 (oS (gKo (.int 0)) 588) := r_iconst (n := 0) (by decide +kernel) (by decide +kernel)
theorem kL_589 : Ok ML 589 (oLA 1 590) := r_aload_n (j := 1) (by decide +kernel) rfl
theorem kL_590 : Ok ML 590 (oLA 0 591) := r_aload_n (j := 0) (by decide +kernel) rfl
theorem kL_591 : Ok ML 591 (oLI 3 592) := r_iload_n (j := 3) (by decide +kernel) rfl
theorem kL_592 : Ok ML 592 (oS (gKo (.int 1)) 593) := r_iconst (n := 1) (by decide +kernel) (by decide +kernel)
theorem kL_593 : Ok ML 593 (oS (gI2 f_iadd) 594) := r_iadd (by decide +kernel)
theorem kL_595 : Ok ML 595 (oCV 4 80 1) := r_callV (idx := 85) (by decide +kernel) w_596 cv_80
theorem kL_598 : Ok ML 598 (oLA 2 599) := r_aload_n (j := 2) (by decide +kernel) rfl
theorem kL_599 : Ok ML 599 (oLA 0 600) := r_aload_n (j := 0) (by decide +kernel) rfl
theorem kL_600 : Ok ML 600 (oLI 3 601) := r_iload_n (j := 3) (by decide +kernel) rfl
theorem kL_601 : Ok ML 601 (oS (gKo (.int 1)) 602) := r_iconst (n := 1) (by decide +kernel) (by decide +kernel)
theorem kL_602 : Ok ML 602 (oS (gI2 f_iadd) 603) := r_iadd (by decide +kernel)
theorem kL_604 : Ok ML 604 (oCV 5 158 1) := r_callV (idx := 88) (by decide +kernel) w_989 cv_158
theorem kL_607 : Ok ML 607 (oB2 b_icmp_eq q_eq 774 610) := r_icmp_eq (off := 167) (by decide +kernel) (by decide +kernel)
theorem kL_610 : Ok ML 610 (oS (gKo (.int 0)) 611) := r_iconst (n := 0) (by decide +kernel) (by decide +kernel)
theorem kL_612 : Ok ML 612 (oLA 1 613) := r_aload_n (j := 1) (by decide +kernel) rfl
theorem kL_613 : Ok ML 613 (oLA 0 614) := r_aload_n (j := 0) (by decide +kernel) rfl
theorem kL_614 : Ok ML 614 (oLI 3 615) := r_iload_n (j := 3) (by decide +kernel) rfl
theorem kL_615 : Ok ML 615 (oS (gKo (.int 1)) 616) := r_iconst (n := 1) (by decide +kernel) (by decide +kernel)
theorem kL_616 : Ok ML 616 (oS (gI2 f_iadd) 617) := r_iadd (by decide +kernel)
theorem kL_618 : Ok ML 618 (oLA 0 619) := r_aload_n (j := 0) (by decide +kernel) rfl
theorem kL_619 : Ok ML 619 (oLI 3 620) := r_iload_n (j := 3) (by decide +kernel) rfl
theorem kL_620 : Ok ML 620 (oS (gKo (.int 2)) 621) := r_iconst (n := 2) (by decide +kernel) (by decide +kernel)
theorem kL_621 : Ok ML 621 (oS (gI2 f_iadd) 622) := r_iadd (by decide +kernel)
theorem kL_623 : Ok ML 623 (oCV 4 81 2) := r_callV (idx := 89) (by decide +kernel) w_607 cv_81
theorem kL_626 : Ok ML 626 (oLA 2 627) := r_aload_n (j := 2) (by decide +kernel) rfl
theorem kL_627 : Ok ML 627 (oLA 0 628) := r_aload_n (j := 0) (by decide +kernel) rfl
theorem kL_628 : Ok ML 628 (oLI 3 629) := r_iload_n (j := 3) (by decide +kernel) rfl
theorem kL_629 : Ok ML 629 (oS (gKo (.int 1)) 630) := r_iconst (n := 1) (by decide +kernel) (by decide +kernel)
theorem kL_630 : Ok ML 630 (oS (gI2 f_iadd) 631) := r_iadd (by decide +kernel)
theorem kL_632 : Ok ML 632 (oLA 0 633) := r_aload_n (j := 0) (by decide +kernel) rfl
theorem kL_633 : Ok ML 633 (oLI 3 634) := r_iload_n (j := 3) (by decide +kernel) rfl
theorem kL_634 : Ok ML 634 (oS (gKo (.int 2)) 635) := r_iconst (n := 2) (by decide +kernel) (by decide +kernel)
theorem kL_635 : Ok ML 635 (oS (gI2 f_iadd) 636) := r_iadd (by decide +kernel)
theorem kL_637 : Ok ML 637 (oCV 5 159 2) := r_callV (idx := 92) (by decide +kernel) w_997 cv_159
theorem kL_640 : Ok ML 640 (oB2 b_icmp_eq q_eq 774 643) := r_icmp_eq (off := 134) (by decide +kernel) (by decide +kernel)
theorem kL_643 : Ok ML 643 (oS (gKo (.int 0)) 644) := r_iconst (n := 0) (by decide +kernel) (by decide +kernel)
theorem kL_645 : Ok ML 645 (oLA 1 646) := r_aload_n (j := 1) (by decide +kernel) rfl
theorem kL_646 : Ok ML 646 (oLA 0 647) := r_aload_n (j := 0) (by decide +kernel) rfl
theorem kL_647 : Ok ML 647 (oLI 3 648) := r_iload_n (j := 3) (by decide +kernel) rfl
theorem kL_648 : Ok ML 648 (oS (gKo (.int 1)) 649) := r_iconst (n := 1) (by decide +kernel) (by decide +kernel)
theorem kL_649 : Ok ML 649 (oS (gI2 f_iadd) 650) := r_iadd (by decide +kernel)
theorem kL_651 : Ok ML 651 (oCV 4 82 1) := r_callV (idx := 93) (by decide +kernel) w_615 cv_82
theorem kL_654 : Ok ML 654 (oLA 2 655) := r_aload_n (j := 2) (by decide +kernel) rfl
theorem kL_655 : Ok ML 655 (oLA 0 656) := r_aload_n (j := 0) (by decide +kernel) rfl
theorem kL_656 : Ok ML 656 (oLI 3 657) := r_iload_n (j := 3) (by decide +kernel) rfl
theorem kL_657 : Ok ML 657 (oS (gKo (.int 1)) 658) := r_iconst (n := 1) (by decide +kernel) (by decide +kernel)
theorem kL_658 : Ok ML 658 (oS (gI2 f_iadd) 659) := r_iadd (by decide +kernel)
theorem kL_660 : Ok ML 660 (oCV 5 160 1) := r_callV (idx := 96) (by decide +kernel) w_1001 cv_160
theorem kL_663 : Ok ML 663 (oB2 b_icmp_eq q_eq 774 666) := r_icmp_eq (off := 111) (by decide +kernel) (by decide +kernel)
theorem kL_666 : Ok ML 666 (oS (gKo (.int 0)) 667) := r_iconst (n := 0) (by decide +kernel) (by decide +kernel)
theorem kL_668 : Ok ML 668 (oLA 1 669) := r_aload_n (j := 1) (by decide +kernel) rfl
theorem kL_669 : Ok ML 669 (oLA 0 670) := r_aload_n (j := 0) (by decide +kernel) rfl
theorem kL_670 : Ok ML 670 (oLI 3 671) := r_iload_n (j := 3) (by decide +kernel) rfl
theorem kL_671 : Ok ML 671 (oS (gKo (.int 1)) 672) := r_iconst (n := 1) (by decide +kernel) (by decide +kernel)
theorem kL_672 : Ok ML 672 (oS (gI2 f_iadd) 673) := r_iadd (by decide +kernel)
theorem kL_674 : Ok ML 674 (oCV 4 83 1) := r_callV (idx := 97) (by decide +kernel) w_623 cv_83
theorem kL_677 : Ok ML 677 (oLA 2 678) := r_aload_n (j := 2) (by decide +kernel) rfl
theorem kL_678 : Ok ML 678 (oLA 0 679) := r_aload_n (j := 0) (by decide +kernel) rfl
theorem kL_679 : Ok ML 679 (oLI 3 680) := r_iload_n (j := 3) (by decide +kernel) rfl
theorem kL_680 : Ok ML 680 (oS (gKo (.int 1)) 681) := r_iconst (n := 1) (by decide +kernel) (by decide +kernel)
theorem kL_681 : Ok ML 681 (oS (gI2 f_iadd) 682) := r_iadd (by decide +kernel)
theorem kL_683 : Ok ML 683 (oCV 5 161 1) := r_callV (idx := 100) (by decide +kernel) w_1005 cv_161
theorem kL_686 : Ok ML 686 (oB2 b_icmp_eq q_eq 774 689) := r_icmp_eq (off := 88) (by decide +kernel) (by decide +kernel)
theorem kL_689 : Ok ML 689 (oS (gKo (.int 0)) 690) := r_iconst (n := 0) (by decide +kernel) (by decide +kernel)
theorem kL_691 : Ok ML 691 (oLA 1 692) := r_aload_n (j := 1) (by decide +kernel) rfl
theorem kL_692 : Ok ML 692 (oLA 0 693) := r_aload_n (j := 0) (by decide +kernel) rfl
theorem kL_693 : Ok ML 693 (oLI 3 694) := r_iload_n (j := 3) (by decide +kernel) rfl
theorem kL_694 : Ok ML 694 (oS (gKo (.int 1)) 695) := r_iconst (n := 1) (by decide +kernel) (by decide +kernel)
theorem kL_695 : Ok ML 695 (oS (gI2 f_iadd) 696) := r_iadd (by decide +kernel)
theorem kL_697 : Ok ML 697 (oLA 0 698) := r_aload_n (j := 0) (by decide +kernel) rfl
theorem kL_698 : Ok ML 698 (oLI 3 699) := r_iload_n (j := 3) (by decide +kernel) rfl
theorem kL_699 : Ok ML 699 (oS (gKo (.int 2)) 700) := r_iconst (n := 2) (by decide +kernel) (by decide +kernel)
theorem kL_700 : Ok ML 700 (oS (gI2 f_iadd) 701) := r_iadd (by decide +kernel)
theorem kL_702 : Ok ML 702 (oCV 4 84 2) := r_callV (idx := 101) (by decide +kernel) w_636 cv_84
theorem kL_705 : Ok ML 705 (oLA 2 706) := r_aload_n (j := 2) (by decide +kernel) rfl
theorem kL_706 : Ok ML 706 (oLA 0 707) := r_aload_n (j := 0) (by decide +kernel) rfl
theorem kL_707 : Ok ML 707 (oLI 3 708) := r_iload_n (j := 3) (by decide +kernel) rfl
theorem kL_708 : Ok ML 708 (oS (gKo (.int 1)) 709) := r_iconst (n := 1) (by decide +kernel) (by decide +kernel)
theorem kL_709 : Ok ML 709 (oS (gI2 f_iadd) 710) := r_iadd (by decide +kernel)
theorem kL_711 : Ok ML 711 (oLA 0 712) := r_aload_n (j := 0) (by decide +kernel) rfl
theorem kL_712 : Ok ML 712 (oLI 3 713) := r_iload_n (j := 3) (by decide +kernel) rfl
theorem kL_713 : Ok ML 713 (oS (gKo (.int 2)) 714) := r_iconst (n := 2) (by decide +kernel) (by decide +kernel)
theorem kL_714 : Ok ML 714 (oS (gI2 f_iadd) 715) := r_iadd (by decide +kernel)
theorem kL_716 : Ok ML 716 (oCV 5 163 2) := r_callV (idx := 104) (by decide +kernel) w_1013 cv_163
theorem kL_719 : Ok ML 719 (oB2 b_icmp_eq q_eq 774 722) := r_icmp_eq (off := 55) (by decide +kernel) (by decide +kernel)
theorem kL_722 : Ok ML 722 (oS (gKo (.int 0)) 723) := r_iconst (n := 0) (by decide +kernel) (by decide +kernel)
theorem kL_724 : Ok ML 724 (oLA 1 725) := r_aload_n (j := 1) (by decide +kernel) rfl
theorem kL_725 : Ok ML 725 (oCV 4 85 0) := r_callV (idx := 105) (by decide +kernel) w_640 cv_85
theorem kL_728 : Ok ML 728 (oLA 2 729) := r_aload_n (j := 2) (by decide +kernel) rfl
theorem kL_729 : Ok ML 729 (oCV 5 164 0) := r_callV (idx := 108) (by decide +kernel) w_1018 cv_164
theorem kL_732 : Ok ML 732 (oB2 b_icmp_eq q_eq 774 735) := r_icmp_eq (off := 42) (by decide +kernel) (by decide +kernel)
theorem kL_735 : Ok ML 735 (oS (gKo (.int 0)) 736) := r_iconst (n := 0) (by decide +kernel) (by decide +kernel)
theorem kL_737 : Ok ML 737 (oLA 1 738) := r_aload_n (j := 1) (by decide +kernel) rfl
theorem kL_738 : Ok ML 738 (oLA 0 739) := r_aload_n (j := 0) (by decide +kernel) rfl
theorem kL_739 : Ok ML 739 (oLI 3 740) := r_iload_n (j := 3) (by decide +kernel) rfl
theorem kL_740 : Ok ML 740 (oS (gKo (.int 1)) 741) := r_iconst (n := 1) (by decide +kernel) (by decide +kernel)
theorem kL_741 : Ok ML 741 (oS (gI2 f_iadd) 742) := r_iadd (by decide +kernel)
theorem kL_743 : Ok ML 743 (oCV 4 86 1) := r_callV (idx := 109) (by decide +kernel) w_648 cv_86
theorem kL_746 : Ok ML 746 (oLA 2 747) := r_aload_n (j := 2) (by decide +kernel) rfl
theorem kL_747 : Ok ML 747 (oLA 0 748) := r_aload_n (j := 0) (by decide +kernel) rfl
theorem kL_748 : Ok ML 748 (oLI 3 749) := r_iload_n (j := 3) (by decide +kernel) rfl
theorem kL_749 : Ok ML 749 (oS (gKo (.int 1)) 750) := r_iconst (n := 1) (by decide +kernel) (by decide +kernel)
theorem kL_750 : Ok ML 750 (oS (gI2 f_iadd) 751) := r_iadd (by decide +kernel)
theorem kL_752 : Ok ML 752 (oCV 5 166 1) := r_callV (idx := 112) (by decide +kernel) w_1022 cv_166
theorem kL_755 : Ok ML 755 (oB2 b_icmp_eq q_eq 774 758) := r_icmp_eq (off := 19) (by decide +kernel) (by decide +kernel)
theorem kL_758 : Ok ML 758 (oS (gKo (.int 0)) 759) := r_iconst (n := 0) (by decide +kernel) (by decide +kernel)
theorem kL_760 : Ok ML 760 (oLA 1 761) := r_aload_n (j := 1) (by decide +kernel) rfl
theorem kL_761 : Ok ML 761 (oCV 4 87 0) := r_callV (idx := 113) (by decide +kernel) w_653 cv_87
theorem kL_764 : Ok ML 764 (oLA 2 765) := r_aload_n (j := 2) (by decide +kernel) rfl
theorem kL_765 : Ok ML 765 (oCV 5 167 0) := r_callV (idx := 117) (by decide +kernel) w_1031 cv_167
theorem kL_768 : Ok ML 768 (oS gCm 769) := r_lcmp (by decide +kernel)
theorem kL_769 : Ok ML 769 (oB1 b_if_eq q_eq 774 772) := r_if_eq (off := 5) (by decide +kernel) (by decide +kernel)
theorem kL_772 : Ok ML 772 (oS (gKo (.int 0)) 773) := r_iconst (n := 0) (by decide +kernel) (by decide +kernel)
theorem kL_774 : Ok ML 774 (oInc 3 4 4 777) := r_iinc (n := 4) (by decide +kernel) (by decide +kernel)
theorem kL_777 : Ok ML 777 (oGo 18) := r_goto (off := (-759)) (by decide +kernel) (by decide +kernel)
theorem dL_20 : decode ML.2.1 20 = .ok (.arraylength, 1) := by decide +kernel
theorem dL_28 : decode ML.2.1 28 = .ok (.iaload, 1) := by decide +kernel
theorem dL_31 : decode ML.2.1 31 = .ok (.iand, 1) := by decide +kernel
theorem dL_153 : decode ML.2.1 153 = .ok (.iaload, 1) := by decide +kernel
theorem dL_162 : decode ML.2.1 162 = .ok (.iaload, 1) := by decide +kernel
theorem dL_202 : decode ML.2.1 202 = .ok (.iaload, 1) := by decide +kernel
theorem dL_211 : decode ML.2.1 211 = .ok (.iaload, 1) := by decide +kernel
theorem dL_225 : decode ML.2.1 225 = .ok (.iaload, 1) := by decide +kernel
theorem dL_230 : decode ML.2.1 230 = .ok (.iaload, 1) := by decide +kernel
theorem dL_239 : decode ML.2.1 239 = .ok (.iaload, 1) := by decide +kernel
theorem dL_244 : decode ML.2.1 244 = .ok (.iaload, 1) := by decide +kernel
theorem dL_258 : decode ML.2.1 258 = .ok (.iaload, 1) := by decide +kernel
theorem dL_263 : decode ML.2.1 263 = .ok (.iaload, 1) := by decide +kernel
theorem dL_272 : decode ML.2.1 272 = .ok (.iaload, 1) := by decide +kernel
theorem dL_277 : decode ML.2.1 277 = .ok (.iaload, 1) := by decide +kernel
theorem dL_291 : decode ML.2.1 291 = .ok (.iaload, 1) := by decide +kernel
theorem dL_296 : decode ML.2.1 296 = .ok (.iaload, 1) := by decide +kernel
theorem dL_305 : decode ML.2.1 305 = .ok (.iaload, 1) := by decide +kernel
theorem dL_310 : decode ML.2.1 310 = .ok (.iaload, 1) := by decide +kernel
theorem dL_324 : decode ML.2.1 324 = .ok (.iaload, 1) := by decide +kernel
theorem dL_333 : decode ML.2.1 333 = .ok (.iaload, 1) := by decide +kernel
theorem dL_347 : decode ML.2.1 347 = .ok (.iaload, 1) := by decide +kernel
theorem dL_352 : decode ML.2.1 352 = .ok (.iaload, 1) := by decide +kernel
theorem dL_357 : decode ML.2.1 357 = .ok (.iaload, 1) := by decide +kernel
theorem dL_366 : decode ML.2.1 366 = .ok (.iaload, 1) := by decide +kernel
theorem dL_371 : decode ML.2.1 371 = .ok (.iaload, 1) := by decide +kernel
theorem dL_376 : decode ML.2.1 376 = .ok (.iaload, 1) := by decide +kernel
theorem dL_390 : decode ML.2.1 390 = .ok (.iaload, 1) := by decide +kernel
theorem dL_395 : decode ML.2.1 395 = .ok (.iaload, 1) := by decide +kernel
theorem dL_404 : decode ML.2.1 404 = .ok (.iaload, 1) := by decide +kernel
theorem dL_409 : decode ML.2.1 409 = .ok (.iaload, 1) := by decide +kernel
theorem dL_423 : decode ML.2.1 423 = .ok (.iaload, 1) := by decide +kernel
theorem dL_432 : decode ML.2.1 432 = .ok (.iaload, 1) := by decide +kernel
theorem dL_446 : decode ML.2.1 446 = .ok (.iaload, 1) := by decide +kernel
theorem dL_451 : decode ML.2.1 451 = .ok (.iaload, 1) := by decide +kernel
theorem dL_460 : decode ML.2.1 460 = .ok (.iaload, 1) := by decide +kernel
theorem dL_465 : decode ML.2.1 465 = .ok (.iaload, 1) := by decide +kernel
theorem dL_479 : decode ML.2.1 479 = .ok (.iaload, 1) := by decide +kernel
theorem dL_484 : decode ML.2.1 484 = .ok (.iaload, 1) := by decide +kernel
theorem dL_493 : decode ML.2.1 493 = .ok (.iaload, 1) := by decide +kernel
theorem dL_498 : decode ML.2.1 498 = .ok (.iaload, 1) := by decide +kernel
theorem dL_512 : decode ML.2.1 512 = .ok (.iaload, 1) := by decide +kernel
theorem dL_521 : decode ML.2.1 521 = .ok (.iaload, 1) := by decide +kernel
theorem dL_535 : decode ML.2.1 535 = .ok (.iaload, 1) := by decide +kernel
theorem dL_544 : decode ML.2.1 544 = .ok (.iaload, 1) := by decide +kernel
theorem dL_558 : decode ML.2.1 558 = .ok (.iaload, 1) := by decide +kernel
theorem dL_567 : decode ML.2.1 567 = .ok (.iaload, 1) := by decide +kernel
theorem dL_594 : decode ML.2.1 594 = .ok (.iaload, 1) := by decide +kernel
theorem dL_603 : decode ML.2.1 603 = .ok (.iaload, 1) := by decide +kernel
theorem dL_617 : decode ML.2.1 617 = .ok (.iaload, 1) := by decide +kernel
theorem dL_622 : decode ML.2.1 622 = .ok (.iaload, 1) := by decide +kernel
theorem dL_631 : decode ML.2.1 631 = .ok (.iaload, 1) := by decide +kernel
theorem dL_636 : decode ML.2.1 636 = .ok (.iaload, 1) := by decide +kernel
theorem dL_650 : decode ML.2.1 650 = .ok (.iaload, 1) := by decide +kernel
theorem dL_659 : decode ML.2.1 659 = .ok (.iaload, 1) := by decide +kernel
theorem dL_673 : decode ML.2.1 673 = .ok (.iaload, 1) := by decide +kernel
theorem dL_682 : decode ML.2.1 682 = .ok (.iaload, 1) := by decide +kernel
theorem dL_696 : decode ML.2.1 696 = .ok (.iaload, 1) := by decide +kernel
theorem dL_701 : decode ML.2.1 701 = .ok (.iaload, 1) := by decide +kernel
theorem dL_710 : decode ML.2.1 710 = .ok (.iaload, 1) := by decide +kernel
theorem dL_715 : decode ML.2.1 715 = .ok (.iaload, 1) := by decide +kernel
theorem dL_742 : decode ML.2.1 742 = .ok (.iaload, 1) := by decide +kernel
theorem dL_751 : decode ML.2.1 751 = .ok (.iaload, 1) := by decide +kernel
def BL_0 (L k : Nat) (sc : List aV) : List (Nat × aO) := [(0, oNO 4 9 [.null, .null, .null, .null, .null, .int 0, .int 0, .int 0, .int 0] 3), (3, oS gDu 4), (4, oCI 62 0), (7, oSA 1 4 8), (8, oNO 5 20 [.null, .int 0, .null, .null, .int 0, .null, .int 0, .int 0, .int 0, .int 0, .int 0, .int 0, .null, .null, .null, .null, .null, .int 0, .null, .int 0] 11), (11, oS gDu 12), (12, oCI 95 0), (15, oSA 2 4 16)]
theorem BL_0_ok {G : aG} {d : Nat} {p : Program} {l : Launch} {e : Env} {R : Room} {s : State} {m : MethodId} {args : Array Value} {below : List Frame} {meth : Method} {c : Code} {L k : Nat} {sc : List aV} (C : LC G d p R s m args meth c L k sc) : ∀ q ∈ BL_0 L k sc, OkA G ML d p l e R s m args below meth c q.1 q.2 := List.forall_mem_cons.mpr ⟨okn C kL_0, List.forall_mem_cons.mpr ⟨okn C kL_3, List.forall_mem_cons.mpr ⟨okn C kL_4, List.forall_mem_cons.mpr ⟨okn C kL_7, List.forall_mem_cons.mpr ⟨okn C kL_8, List.forall_mem_cons.mpr ⟨okn C kL_11, List.forall_mem_cons.mpr ⟨okn C kL_12, List.forall_mem_cons.mpr ⟨okn C kL_15, fun _ h => absurd h List.not_mem_nil⟩⟩⟩⟩⟩⟩⟩⟩
def BL_1 (L k : Nat) (sc : List aV) : List (Nat × aO) := [(16, oS (gKo (.int 0)) 17), (17, oSI 3 4 18), (18, oLI 3 19), (19, oLA 0 20), (20, oSn L 21), (21, oS (gKo (.int 4)) 22), (22, oS (gI2 f_isub) 23), (23, oB2 b_icmp_gt q_gt 780 26)]
theorem BL_1_ok {G : aG} {d : Nat} {p : Program} {l : Launch} {e : Env} {R : Room} {s : State} {m : MethodId} {args : Array Value} {below : List Frame} {meth : Method} {c : Code} {L k : Nat} {sc : List aV} (C : LC G d p R s m args meth c L k sc) : ∀ q ∈ BL_1 L k sc, OkA G ML d p l e R s m args below meth c q.1 q.2 := List.forall_mem_cons.mpr ⟨okn C kL_16, List.forall_mem_cons.mpr ⟨okn C kL_17, List.forall_mem_cons.mpr ⟨okn C kL_18, List.forall_mem_cons.mpr ⟨okn C kL_19, List.forall_mem_cons.mpr ⟨okSn C dL_20, List.forall_mem_cons.mpr ⟨okn C kL_21, List.forall_mem_cons.mpr ⟨okn C kL_22, List.forall_mem_cons.mpr ⟨okn C kL_23, fun _ h => absurd h List.not_mem_nil⟩⟩⟩⟩⟩⟩⟩⟩
def BL_2 (L k : Nat) (sc : List aV) : List (Nat × aO) := [(26, oLA 0 27), (27, oLI 3 28), (28, oSc sc 29), (29, oS (gKo (.int 31)) 31), (31, oAk k 32), (32, oTb [148, 171, 184, 197, 220, 253, 286, 319, 342, 385, 418, 441, 474, 507, 530, 553, 576, 589, 612, 645, 668, 691, 724, 737, 760] 774), (148, oLA 1 149), (149, oLA 0 150)]
theorem BL_2_ok {G : aG} {d : Nat} {p : Program} {l : Launch} {e : Env} {R : Room} {s : State} {m : MethodId} {args : Array Value} {below : List Frame} {meth : Method} {c : Code} {L k : Nat} {sc : List aV} (C : LC G d p R s m args meth c L k sc) : ∀ q ∈ BL_2 L k sc, OkA G ML d p l e R s m args below meth c q.1 q.2 := List.forall_mem_cons.mpr ⟨okn C kL_26, List.forall_mem_cons.mpr ⟨okn C kL_27, List.forall_mem_cons.mpr ⟨okSc C dL_28, List.forall_mem_cons.mpr ⟨okn C kL_29, List.forall_mem_cons.mpr ⟨okAk C dL_31, List.forall_mem_cons.mpr ⟨okn C kL_32, List.forall_mem_cons.mpr ⟨okn C kL_148, List.forall_mem_cons.mpr ⟨okn C kL_149, fun _ h => absurd h List.not_mem_nil⟩⟩⟩⟩⟩⟩⟩⟩
def BL_3 (L k : Nat) (sc : List aV) : List (Nat × aO) := [(150, oLI 3 151), (151, oS (gKo (.int 1)) 152), (152, oS (gI2 f_iadd) 153), (153, oSc sc 154), (154, oCV 4 63 1), (157, oLA 2 158), (158, oLA 0 159), (159, oLI 3 160)]
theorem BL_3_ok {G : aG} {d : Nat} {p : Program} {l : Launch} {e : Env} {R : Room} {s : State} {m : MethodId} {args : Array Value} {below : List Frame} {meth : Method} {c : Code} {L k : Nat} {sc : List aV} (C : LC G d p R s m args meth c L k sc) : ∀ q ∈ BL_3 L k sc, OkA G ML d p l e R s m args below meth c q.1 q.2 := List.forall_mem_cons.mpr ⟨okn C kL_150, List.forall_mem_cons.mpr ⟨okn C kL_151, List.forall_mem_cons.mpr ⟨okn C kL_152, List.forall_mem_cons.mpr ⟨okSc C dL_153, List.forall_mem_cons.mpr ⟨okn C kL_154, List.forall_mem_cons.mpr ⟨okn C kL_157, List.forall_mem_cons.mpr ⟨okn C kL_158, List.forall_mem_cons.mpr ⟨okn C kL_159, fun _ h => absurd h List.not_mem_nil⟩⟩⟩⟩⟩⟩⟩⟩
def BL_4 (L k : Nat) (sc : List aV) : List (Nat × aO) := [(160, oS (gKo (.int 1)) 161), (161, oS (gI2 f_iadd) 162), (162, oSc sc 163), (163, oCV 5 105 1), (166, oB2 b_icmp_eq q_eq 774 169), (169, oS (gKo (.int 0)) 170), (171, oLA 1 172), (172, oCV 4 64 0)]
theorem BL_4_ok {G : aG} {d : Nat} {p : Program} {l : Launch} {e : Env} {R : Room} {s : State} {m : MethodId} {args : Array Value} {below : List Frame} {meth : Method} {c : Code} {L k : Nat} {sc : List aV} (C : LC G d p R s m args meth c L k sc) : ∀ q ∈ BL_4 L k sc, OkA G ML d p l e R s m args below meth c q.1 q.2 := List.forall_mem_cons.mpr ⟨okn C kL_160, List.forall_mem_cons.mpr ⟨okn C kL_161, List.forall_mem_cons.mpr ⟨okSc C dL_162, List.forall_mem_cons.mpr ⟨okn C kL_163, List.forall_mem_cons.mpr ⟨okn C kL_166, List.forall_mem_cons.mpr ⟨okn C kL_169, List.forall_mem_cons.mpr ⟨okn C kL_171, List.forall_mem_cons.mpr ⟨okn C kL_172, fun _ h => absurd h List.not_mem_nil⟩⟩⟩⟩⟩⟩⟩⟩
def BL_5 (L k : Nat) (sc : List aV) : List (Nat × aO) := [(175, oLA 2 176), (176, oCV 5 106 0), (179, oB2 b_icmp_eq q_eq 774 182), (182, oS (gKo (.int 0)) 183), (184, oLA 1 185), (185, oCV 4 65 0), (188, oLA 2 189), (189, oCV 5 119 0)]
theorem BL_5_ok {G : aG} {d : Nat} {p : Program} {l : Launch} {e : Env} {R : Room} {s : State} {m : MethodId} {args : Array Value} {below : List Frame} {meth : Method} {c : Code} {L k : Nat} {sc : List aV} (C : LC G d p R s m args meth c L k sc) : ∀ q ∈ BL_5 L k sc, OkA G ML d p l e R s m args below meth c q.1 q.2 := List.forall_mem_cons.mpr ⟨okn C kL_175, List.forall_mem_cons.mpr ⟨okn C kL_176, List.forall_mem_cons.mpr ⟨okn C kL_179, List.forall_mem_cons.mpr ⟨okn C kL_182, List.forall_mem_cons.mpr ⟨okn C kL_184, List.forall_mem_cons.mpr ⟨okn C kL_185, List.forall_mem_cons.mpr ⟨okn C kL_188, List.forall_mem_cons.mpr ⟨okn C kL_189, fun _ h => absurd h List.not_mem_nil⟩⟩⟩⟩⟩⟩⟩⟩
def BL_6 (L k : Nat) (sc : List aV) : List (Nat × aO) := [(192, oB2 b_icmp_eq q_eq 774 195), (195, oS (gKo (.int 0)) 196), (197, oLA 1 198), (198, oLA 0 199), (199, oLI 3 200), (200, oS (gKo (.int 1)) 201), (201, oS (gI2 f_iadd) 202), (202, oSc sc 203)]
theorem BL_6_ok {G : aG} {d : Nat} {p : Program} {l : Launch} {e : Env} {R : Room} {s : State} {m : MethodId} {args : Array Value} {below : List Frame} {meth : Method} {c : Code} {L k : Nat} {sc : List aV} (C : LC G d p R s m args meth c L k sc) : ∀ q ∈ BL_6 L k sc, OkA G ML d p l e R s m args below meth c q.1 q.2 := List.forall_mem_cons.mpr ⟨okn C kL_192, List.forall_mem_cons.mpr ⟨okn C kL_195, List.forall_mem_cons.mpr ⟨okn C kL_197, List.forall_mem_cons.mpr ⟨okn C kL_198, List.forall_mem_cons.mpr ⟨okn C kL_199, List.forall_mem_cons.mpr ⟨okn C kL_200, List.forall_mem_cons.mpr ⟨okn C kL_201, List.forall_mem_cons.mpr ⟨okSc C dL_202, fun _ h => absurd h List.not_mem_nil⟩⟩⟩⟩⟩⟩⟩⟩
def BL_7 (L k : Nat) (sc : List aV) : List (Nat × aO) := [(203, oCV 4 66 1), (206, oLA 2 207), (207, oLA 0 208), (208, oLI 3 209), (209, oS (gKo (.int 1)) 210), (210, oS (gI2 f_iadd) 211), (211, oSc sc 212), (212, oCV 5 121 1)]
theorem BL_7_ok {G : aG} {d : Nat} {p : Program} {l : Launch} {e : Env} {R : Room} {s : State} {m : MethodId} {args : Array Value} {below : List Frame} {meth : Method} {c : Code} {L k : Nat} {sc : List aV} (C : LC G d p R s m args meth c L k sc) : ∀ q ∈ BL_7 L k sc, OkA G ML d p l e R s m args below meth c q.1 q.2 := List.forall_mem_cons.mpr ⟨okn C kL_203, List.forall_mem_cons.mpr ⟨okn C kL_206, List.forall_mem_cons.mpr ⟨okn C kL_207, List.forall_mem_cons.mpr ⟨okn C kL_208, List.forall_mem_cons.mpr ⟨okn C kL_209, List.forall_mem_cons.mpr ⟨okn C kL_210, List.forall_mem_cons.mpr ⟨okSc C dL_211, List.forall_mem_cons.mpr ⟨okn C kL_212, fun _ h => absurd h List.not_mem_nil⟩⟩⟩⟩⟩⟩⟩⟩
def BL_8 (L k : Nat) (sc : List aV) : List (Nat × aO) := [(215, oB2 b_icmp_eq q_eq 774 218), (218, oS (gKo (.int 0)) 219), (220, oLA 1 221), (221, oLA 0 222), (222, oLI 3 223), (223, oS (gKo (.int 1)) 224), (224, oS (gI2 f_iadd) 225), (225, oSc sc 226)]
theorem BL_8_ok {G : aG} {d : Nat} {p : Program} {l : Launch} {e : Env} {R : Room} {s : State} {m : MethodId} {args : Array Value} {below : List Frame} {meth : Method} {c : Code} {L k : Nat} {sc : List aV} (C : LC G d p R s m args meth c L k sc) : ∀ q ∈ BL_8 L k sc, OkA G ML d p l e R s m args below meth c q.1 q.2 := List.forall_mem_cons.mpr ⟨okn C kL_215, List.forall_mem_cons.mpr ⟨okn C kL_218, List.forall_mem_cons.mpr ⟨okn C kL_220, List.forall_mem_cons.mpr ⟨okn C kL_221, List.forall_mem_cons.mpr ⟨okn C kL_222, List.forall_mem_cons.mpr ⟨okn C kL_223, List.forall_mem_cons.mpr ⟨okn C kL_224, List.forall_mem_cons.mpr ⟨okSc C dL_225, fun _ h => absurd h List.not_mem_nil⟩⟩⟩⟩⟩⟩⟩⟩
def BL_9 (L k : Nat) (sc : List aV) : List (Nat × aO) := [(226, oLA 0 227), (227, oLI 3 228), (228, oS (gKo (.int 2)) 229), (229, oS (gI2 f_iadd) 230), (230, oSc sc 231), (231, oCV 4 67 2), (234, oLA 2 235), (235, oLA 0 236)]
theorem BL_9_ok {G : aG} {d : Nat} {p : Program} {l : Launch} {e : Env} {R : Room} {s : State} {m : MethodId} {args : Array Value} {below : List Frame} {meth : Method} {c : Code} {L k : Nat} {sc : List aV} (C : LC G d p R s m args meth c L k sc) : ∀ q ∈ BL_9 L k sc, OkA G ML d p l e R s m args below meth c q.1 q.2 := List.forall_mem_cons.mpr ⟨okn C kL_226, List.forall_mem_cons.mpr ⟨okn C kL_227, List.forall_mem_cons.mpr ⟨okn C kL_228, List.forall_mem_cons.mpr ⟨okn C kL_229, List.forall_mem_cons.mpr ⟨okSc C dL_230, List.forall_mem_cons.mpr ⟨okn C kL_231, List.forall_mem_cons.mpr ⟨okn C kL_234, List.forall_mem_cons.mpr ⟨okn C kL_235, fun _ h => absurd h List.not_mem_nil⟩⟩⟩⟩⟩⟩⟩⟩
def BL_10 (L k : Nat) (sc : List aV) : List (Nat × aO) := [(236, oLI 3 237), (237, oS (gKo (.int 1)) 238), (238, oS (gI2 f_iadd) 239), (239, oSc sc 240), (240, oLA 0 241), (241, oLI 3 242), (242, oS (gKo (.int 2)) 243), (243, oS (gI2 f_iadd) 244)]
theorem BL_10_ok {G : aG} {d : Nat} {p : Program} {l : Launch} {e : Env} {R : Room} {s : State} {m : MethodId} {args : Array Value} {below : List Frame} {meth : Method} {c : Code} {L k : Nat} {sc : List aV} (C : LC G d p R s m args meth c L k sc) : ∀ q ∈ BL_10 L k sc, OkA G ML d p l e R s m args below meth c q.1 q.2 := List.forall_mem_cons.mpr ⟨okn C kL_236, List.forall_mem_cons.mpr ⟨okn C kL_237, List.forall_mem_cons.mpr ⟨okn C kL_238, List.forall_mem_cons.mpr ⟨okSc C dL_239, List.forall_mem_cons.mpr ⟨okn C kL_240, List.forall_mem_cons.mpr ⟨okn C kL_241, List.forall_mem_cons.mpr ⟨okn C kL_242, List.forall_mem_cons.mpr ⟨okn C kL_243, fun _ h => absurd h List.not_mem_nil⟩⟩⟩⟩⟩⟩⟩⟩
def BL_11 (L k : Nat) (sc : List aV) : List (Nat × aO) := [(244, oSc sc 245), (245, oCV 5 132 2), (248, oB2 b_icmp_eq q_eq 774 251), (251, oS (gKo (.int 0)) 252), (253, oLA 1 254), (254, oLA 0 255), (255, oLI 3 256), (256, oS (gKo (.int 1)) 257)]
theorem BL_11_ok {G : aG} {d : Nat} {p : Program} {l : Launch} {e : Env} {R : Room} {s : State} {m : MethodId} {args : Array Value} {below : List Frame} {meth : Method} {c : Code} {L k : Nat} {sc : List aV} (C : LC G d p R s m args meth c L k sc) : ∀ q ∈ BL_11 L k sc, OkA G ML d p l e R s m args below meth c q.1 q.2 := List.forall_mem_cons.mpr ⟨okSc C dL_244, List.forall_mem_cons.mpr ⟨okn C kL_245, List.forall_mem_cons.mpr ⟨okn C kL_248, List.forall_mem_cons.mpr ⟨okn C kL_251, List.forall_mem_cons.mpr ⟨okn C kL_253, List.forall_mem_cons.mpr ⟨okn C kL_254, List.forall_mem_cons.mpr ⟨okn C kL_255, List.forall_mem_cons.mpr ⟨okn C kL_256, fun _ h => absurd h List.not_mem_nil⟩⟩⟩⟩⟩⟩⟩⟩
def BL_12 (L k : Nat) (sc : List aV) : List (Nat × aO) := [(257, oS (gI2 f_iadd) 258), (258, oSc sc 259), (259, oLA 0 260), (260, oLI 3 261), (261, oS (gKo (.int 2)) 262), (262, oS (gI2 f_iadd) 263), (263, oSc sc 264), (264, oCV 4 68 2)]
theorem BL_12_ok {G : aG} {d : Nat} {p : Program} {l : Launch} {e : Env} {R : Room} {s : State} {m : MethodId} {args : Array Value} {below : List Frame} {meth : Method} {c : Code} {L k : Nat} {sc : List aV} (C : LC G d p R s m args meth c L k sc) : ∀ q ∈ BL_12 L k sc, OkA G ML d p l e R s m args below meth c q.1 q.2 := List.forall_mem_cons.mpr ⟨okn C kL_257, List.forall_mem_cons.mpr ⟨okSc C dL_258, List.forall_mem_cons.mpr ⟨okn C kL_259, List.forall_mem_cons.mpr ⟨okn C kL_260, List.forall_mem_cons.mpr ⟨okn C kL_261, List.forall_mem_cons.mpr ⟨okn C kL_262, List.forall_mem_cons.mpr ⟨okSc C dL_263, List.forall_mem_cons.mpr ⟨okn C kL_264, fun _ h => absurd h List.not_mem_nil⟩⟩⟩⟩⟩⟩⟩⟩
def BL_13 (L k : Nat) (sc : List aV) : List (Nat × aO) := [(267, oLA 2 268), (268, oLA 0 269), (269, oLI 3 270), (270, oS (gKo (.int 1)) 271), (271, oS (gI2 f_iadd) 272), (272, oSc sc 273), (273, oLA 0 274), (274, oLI 3 275)]
theorem BL_13_ok {G : aG} {d : Nat} {p : Program} {l : Launch} {e : Env} {R : Room} {s : State} {m : MethodId} {args : Array Value} {below : List Frame} {meth : Method} {c : Code} {L k : Nat} {sc : List aV} (C : LC G d p R s m args meth c L k sc) : ∀ q ∈ BL_13 L k sc, OkA G ML d p l e R s m args below meth c q.1 q.2 := List.forall_mem_cons.mpr ⟨okn C kL_267, List.forall_mem_cons.mpr ⟨okn C kL_268, List.forall_mem_cons.mpr ⟨okn C kL_269, List.forall_mem_cons.mpr ⟨okn C kL_270, List.forall_mem_cons.mpr ⟨okn C kL_271, List.forall_mem_cons.mpr ⟨okSc C dL_272, List.forall_mem_cons.mpr ⟨okn C kL_273, List.forall_mem_cons.mpr ⟨okn C kL_274, fun _ h => absurd h List.not_mem_nil⟩⟩⟩⟩⟩⟩⟩⟩
def BL_14 (L k : Nat) (sc : List aV) : List (Nat × aO) := [(275, oS (gKo (.int 2)) 276), (276, oS (gI2 f_iadd) 277), (277, oSc sc 278), (278, oCV 5 134 2), (281, oB2 b_icmp_eq q_eq 774 284), (284, oS (gKo (.int 0)) 285), (286, oLA 1 287), (287, oLA 0 288)]
theorem BL_14_ok {G : aG} {d : Nat} {p : Program} {l : Launch} {e : Env} {R : Room} {s : State} {m : MethodId} {args : Array Value} {below : List Frame} {meth : Method} {c : Code} {L k : Nat} {sc : List aV} (C : LC G d p R s m args meth c L k sc) : ∀ q ∈ BL_14 L k sc, OkA G ML d p l e R s m args below meth c q.1 q.2 := List.forall_mem_cons.mpr ⟨okn C kL_275, List.forall_mem_cons.mpr ⟨okn C kL_276, List.forall_mem_cons.mpr ⟨okSc C dL_277, List.forall_mem_cons.mpr ⟨okn C kL_278, List.forall_mem_cons.mpr ⟨okn C kL_281, List.forall_mem_cons.mpr ⟨okn C kL_284, List.forall_mem_cons.mpr ⟨okn C kL_286, List.forall_mem_cons.mpr ⟨okn C kL_287, fun _ h => absurd h List.not_mem_nil⟩⟩⟩⟩⟩⟩⟩⟩
def BL_15 (L k : Nat) (sc : List aV) : List (Nat × aO) := [(288, oLI 3 289), (289, oS (gKo (.int 1)) 290), (290, oS (gI2 f_iadd) 291), (291, oSc sc 292), (292, oLA 0 293), (293, oLI 3 294), (294, oS (gKo (.int 2)) 295), (295, oS (gI2 f_iadd) 296)]
theorem BL_15_ok {G : aG} {d : Nat} {p : Program} {l : Launch} {e : Env} {R : Room} {s : State} {m : MethodId} {args : Array Value} {below : List Frame} {meth : Method} {c : Code} {L k : Nat} {sc : List aV} (C : LC G d p R s m args meth c L k sc) : ∀ q ∈ BL_15 L k sc, OkA G ML d p l e R s m args below meth c q.1 q.2 := List.forall_mem_cons.mpr ⟨okn C kL_288, List.forall_mem_cons.mpr ⟨okn C kL_289, List.forall_mem_cons.mpr ⟨okn C kL_290, List.forall_mem_cons.mpr ⟨okSc C dL_291, List.forall_mem_cons.mpr ⟨okn C kL_292, List.forall_mem_cons.mpr ⟨okn C kL_293, List.forall_mem_cons.mpr ⟨okn C kL_294, List.forall_mem_cons.mpr ⟨okn C kL_295, fun _ h => absurd h List.not_mem_nil⟩⟩⟩⟩⟩⟩⟩⟩
def BL_16 (L k : Nat) (sc : List aV) : List (Nat × aO) := [(296, oSc sc 297), (297, oCV 4 69 2), (300, oLA 2 301), (301, oLA 0 302), (302, oLI 3 303), (303, oS (gKo (.int 1)) 304), (304, oS (gI2 f_iadd) 305), (305, oSc sc 306)]
theorem BL_16_ok {G : aG} {d : Nat} {p : Program} {l : Launch} {e : Env} {R : Room} {s : State} {m : MethodId} {args : Array Value} {below : List Frame} {meth : Method} {c : Code} {L k : Nat} {sc : List aV} (C : LC G d p R s m args meth c L k sc) : ∀ q ∈ BL_16 L k sc, OkA G ML d p l e R s m args below meth c q.1 q.2 := List.forall_mem_cons.mpr ⟨okSc C dL_296, List.forall_mem_cons.mpr ⟨okn C kL_297, List.forall_mem_cons.mpr ⟨okn C kL_300, List.forall_mem_cons.mpr ⟨okn C kL_301, List.forall_mem_cons.mpr ⟨okn C kL_302, List.forall_mem_cons.mpr ⟨okn C kL_303, List.forall_mem_cons.mpr ⟨okn C kL_304, List.forall_mem_cons.mpr ⟨okSc C dL_305, fun _ h => absurd h List.not_mem_nil⟩⟩⟩⟩⟩⟩⟩⟩
def BL_17 (L k : Nat) (sc : List aV) : List (Nat × aO) := [(306, oLA 0 307), (307, oLI 3 308), (308, oS (gKo (.int 2)) 309), (309, oS (gI2 f_iadd) 310), (310, oSc sc 311), (311, oCV 5 135 2), (314, oB2 b_icmp_eq q_eq 774 317), (317, oS (gKo (.int 0)) 318)]
theorem BL_17_ok {G : aG} {d : Nat} {p : Program} {l : Launch} {e : Env} {R : Room} {s : State} {m : MethodId} {args : Array Value} {below : List Frame} {meth : Method} {c : Code} {L k : Nat} {sc : List aV} (C : LC G d p R s m args meth c L k sc) : ∀ q ∈ BL_17 L k sc, OkA G ML d p l e R s m args below meth c q.1 q.2 := List.forall_mem_cons.mpr ⟨okn C kL_306, List.forall_mem_cons.mpr ⟨okn C kL_307, List.forall_mem_cons.mpr ⟨okn C kL_308, List.forall_mem_cons.mpr ⟨okn C kL_309, List.forall_mem_cons.mpr ⟨okSc C dL_310, List.forall_mem_cons.mpr ⟨okn C kL_311, List.forall_mem_cons.mpr ⟨okn C kL_314, List.forall_mem_cons.mpr ⟨okn C kL_317, fun _ h => absurd h List.not_mem_nil⟩⟩⟩⟩⟩⟩⟩⟩
def BL_18 (L k : Nat) (sc : List aV) : List (Nat × aO) := [(319, oLA 1 320), (320, oLA 0 321), (321, oLI 3 322), (322, oS (gKo (.int 1)) 323), (323, oS (gI2 f_iadd) 324), (324, oSc sc 325), (325, oCV 4 70 1), (328, oLA 2 329)]
theorem BL_18_ok {G : aG} {d : Nat} {p : Program} {l : Launch} {e : Env} {R : Room} {s : State} {m : MethodId} {args : Array Value} {below : List Frame} {meth : Method} {c : Code} {L k : Nat} {sc : List aV} (C : LC G d p R s m args meth c L k sc) : ∀ q ∈ BL_18 L k sc, OkA G ML d p l e R s m args below meth c q.1 q.2 := List.forall_mem_cons.mpr ⟨okn C kL_319, List.forall_mem_cons.mpr ⟨okn C kL_320, List.forall_mem_cons.mpr ⟨okn C kL_321, List.forall_mem_cons.mpr ⟨okn C kL_322, List.forall_mem_cons.mpr ⟨okn C kL_323, List.forall_mem_cons.mpr ⟨okSc C dL_324, List.forall_mem_cons.mpr ⟨okn C kL_325, List.forall_mem_cons.mpr ⟨okn C kL_328, fun _ h => absurd h List.not_mem_nil⟩⟩⟩⟩⟩⟩⟩⟩
def BL_19 (L k : Nat) (sc : List aV) : List (Nat × aO) := [(329, oLA 0 330), (330, oLI 3 331), (331, oS (gKo (.int 1)) 332), (332, oS (gI2 f_iadd) 333), (333, oSc sc 334), (334, oCV 5 127 1), (337, oB2 b_icmp_eq q_eq 774 340), (340, oS (gKo (.int 0)) 341)]
theorem BL_19_ok {G : aG} {d : Nat} {p : Program} {l : Launch} {e : Env} {R : Room} {s : State} {m : MethodId} {args : Array Value} {below : List Frame} {meth : Method} {c : Code} {L k : Nat} {sc : List aV} (C : LC G d p R s m args meth c L k sc) : ∀ q ∈ BL_19 L k sc, OkA G ML d p l e R s m args below meth c q.1 q.2 := List.forall_mem_cons.mpr ⟨okn C kL_329, List.forall_mem_cons.mpr ⟨okn C kL_330, List.forall_mem_cons.mpr ⟨okn C kL_331, List.forall_mem_cons.mpr ⟨okn C kL_332, List.forall_mem_cons.mpr ⟨okSc C dL_333, List.forall_mem_cons.mpr ⟨okn C kL_334, List.forall_mem_cons.mpr ⟨okn C kL_337, List.forall_mem_cons.mpr ⟨okn C kL_340, fun _ h => absurd h List.not_mem_nil⟩⟩⟩⟩⟩⟩⟩⟩
def BL_20 (L k : Nat) (sc : List aV) : List (Nat × aO) := [(342, oLA 1 343), (343, oLA 0 344), (344, oLI 3 345), (345, oS (gKo (.int 1)) 346), (346, oS (gI2 f_iadd) 347), (347, oSc sc 348), (348, oLA 0 349), (349, oLI 3 350)]
theorem BL_20_ok {G : aG} {d : Nat} {p : Program} {l : Launch} {e : Env} {R : Room} {s : State} {m : MethodId} {args : Array Value} {below : List Frame} {meth : Method} {c : Code} {L k : Nat} {sc : List aV} (C : LC G d p R s m args meth c L k sc) : ∀ q ∈ BL_20 L k sc, OkA G ML d p l e R s m args below meth c q.1 q.2 := List.forall_mem_cons.mpr ⟨okn C kL_342, List.forall_mem_cons.mpr ⟨okn C kL_343, List.forall_mem_cons.mpr ⟨okn C kL_344, List.forall_mem_cons.mpr ⟨okn C kL_345, List.forall_mem_cons.mpr ⟨okn C kL_346, List.forall_mem_cons.mpr ⟨okSc C dL_347, List.forall_mem_cons.mpr ⟨okn C kL_348, List.forall_mem_cons.mpr ⟨okn C kL_349, fun _ h => absurd h List.not_mem_nil⟩⟩⟩⟩⟩⟩⟩⟩
def BL_21 (L k : Nat) (sc : List aV) : List (Nat × aO) := [(350, oS (gKo (.int 2)) 351), (351, oS (gI2 f_iadd) 352), (352, oSc sc 353), (353, oLA 0 354), (354, oLI 3 355), (355, oS (gKo (.int 3)) 356), (356, oS (gI2 f_iadd) 357), (357, oSc sc 358)]
theorem BL_21_ok {G : aG} {d : Nat} {p : Program} {l : Launch} {e : Env} {R : Room} {s : State} {m : MethodId} {args : Array Value} {below : List Frame} {meth : Method} {c : Code} {L k : Nat} {sc : List aV} (C : LC G d p R s m args meth c L k sc) : ∀ q ∈ BL_21 L k sc, OkA G ML d p l e R s m args below meth c q.1 q.2 := List.forall_mem_cons.mpr ⟨okn C kL_350, List.forall_mem_cons.mpr ⟨okn C kL_351, List.forall_mem_cons.mpr ⟨okSc C dL_352, List.forall_mem_cons.mpr ⟨okn C kL_353, List.forall_mem_cons.mpr ⟨okn C kL_354, List.forall_mem_cons.mpr ⟨okn C kL_355, List.forall_mem_cons.mpr ⟨okn C kL_356, List.forall_mem_cons.mpr ⟨okSc C dL_357, fun _ h => absurd h List.not_mem_nil⟩⟩⟩⟩⟩⟩⟩⟩
def BL_22 (L k : Nat) (sc : List aV) : List (Nat × aO) := [(358, oCV 4 71 3), (361, oLA 2 362), (362, oLA 0 363), (363, oLI 3 364), (364, oS (gKo (.int 1)) 365), (365, oS (gI2 f_iadd) 366), (366, oSc sc 367), (367, oLA 0 368)]
theorem BL_22_ok {G : aG} {d : Nat} {p : Program} {l : Launch} {e : Env} {R : Room} {s : State} {m : MethodId} {args : Array Value} {below : List Frame} {meth : Method} {c : Code} {L k : Nat} {sc : List aV} (C : LC G d p R s m args meth c L k sc) : ∀ q ∈ BL_22 L k sc, OkA G ML d p l e R s m args below meth c q.1 q.2 := List.forall_mem_cons.mpr ⟨okn C kL_358, List.forall_mem_cons.mpr ⟨okn C kL_361, List.forall_mem_cons.mpr ⟨okn C kL_362, List.forall_mem_cons.mpr ⟨okn C kL_363, List.forall_mem_cons.mpr ⟨okn C kL_364, List.forall_mem_cons.mpr ⟨okn C kL_365, List.forall_mem_cons.mpr ⟨okSc C dL_366, List.forall_mem_cons.mpr ⟨okn C kL_367, fun _ h => absurd h List.not_mem_nil⟩⟩⟩⟩⟩⟩⟩⟩
def BL_23 (L k : Nat) (sc : List aV) : List (Nat × aO) := [(368, oLI 3 369), (369, oS (gKo (.int 2)) 370), (370, oS (gI2 f_iadd) 371), (371, oSc sc 372), (372, oLA 0 373), (373, oLI 3 374), (374, oS (gKo (.int 3)) 375), (375, oS (gI2 f_iadd) 376)]
theorem BL_23_ok {G : aG} {d : Nat} {p : Program} {l : Launch} {e : Env} {R : Room} {s : State} {m : MethodId} {args : Array Value} {below : List Frame} {meth : Method} {c : Code} {L k : Nat} {sc : List aV} (C : LC G d p R s m args meth c L k sc) : ∀ q ∈ BL_23 L k sc, OkA G ML d p l e R s m args below meth c q.1 q.2 := List.forall_mem_cons.mpr ⟨okn C kL_368, List.forall_mem_cons.mpr ⟨okn C kL_369, List.forall_mem_cons.mpr ⟨okn C kL_370, List.forall_mem_cons.mpr ⟨okSc C dL_371, List.forall_mem_cons.mpr ⟨okn C kL_372, List.forall_mem_cons.mpr ⟨okn C kL_373, List.forall_mem_cons.mpr ⟨okn C kL_374, List.forall_mem_cons.mpr ⟨okn C kL_375, fun _ h => absurd h List.not_mem_nil⟩⟩⟩⟩⟩⟩⟩⟩
def BL_24 (L k : Nat) (sc : List aV) : List (Nat × aO) := [(376, oSc sc 377), (377, oCV 5 136 3), (380, oB2 b_icmp_eq q_eq 774 383), (383, oS (gKo (.int 0)) 384), (385, oLA 1 386), (386, oLA 0 387), (387, oLI 3 388), (388, oS (gKo (.int 1)) 389)]
theorem BL_24_ok {G : aG} {d : Nat} {p : Program} {l : Launch} {e : Env} {R : Room} {s : State} {m : MethodId} {args : Array Value} {below : List Frame} {meth : Method} {c : Code} {L k : Nat} {sc : List aV} (C : LC G d p R s m args meth c L k sc) : ∀ q ∈ BL_24 L k sc, OkA G ML d p l e R s m args below meth c q.1 q.2 := List.forall_mem_cons.mpr ⟨okSc C dL_376, List.forall_mem_cons.mpr ⟨okn C kL_377, List.forall_mem_cons.mpr ⟨okn C kL_380, List.forall_mem_cons.mpr ⟨okn C kL_383, List.forall_mem_cons.mpr ⟨okn C kL_385, List.forall_mem_cons.mpr ⟨okn C kL_386, List.forall_mem_cons.mpr ⟨okn C kL_387, List.forall_mem_cons.mpr ⟨okn C kL_388, fun _ h => absurd h List.not_mem_nil⟩⟩⟩⟩⟩⟩⟩⟩
def BL_25 (L k : Nat) (sc : List aV) : List (Nat × aO) := [(389, oS (gI2 f_iadd) 390), (390, oSc sc 391), (391, oLA 0 392), (392, oLI 3 393), (393, oS (gKo (.int 2)) 394), (394, oS (gI2 f_iadd) 395), (395, oSc sc 396), (396, oCV 4 72 2)]
theorem BL_25_ok {G : aG} {d : Nat} {p : Program} {l : Launch} {e : Env} {R : Room} {s : State} {m : MethodId} {args : Array Value} {below : List Frame} {meth : Method} {c : Code} {L k : Nat} {sc : List aV} (C : LC G d p R s m args meth c L k sc) : ∀ q ∈ BL_25 L k sc, OkA G ML d p l e R s m args below meth c q.1 q.2 := List.forall_mem_cons.mpr ⟨okn C kL_389, List.forall_mem_cons.mpr ⟨okSc C dL_390, List.forall_mem_cons.mpr ⟨okn C kL_391, List.forall_mem_cons.mpr ⟨okn C kL_392, List.forall_mem_cons.mpr ⟨okn C kL_393, List.forall_mem_cons.mpr ⟨okn C kL_394, List.forall_mem_cons.mpr ⟨okSc C dL_395, List.forall_mem_cons.mpr ⟨okn C kL_396, fun _ h => absurd h List.not_mem_nil⟩⟩⟩⟩⟩⟩⟩⟩
def BL_26 (L k : Nat) (sc : List aV) : List (Nat × aO) := [(399, oLA 2 400), (400, oLA 0 401), (401, oLI 3 402), (402, oS (gKo (.int 1)) 403), (403, oS (gI2 f_iadd) 404), (404, oSc sc 405), (405, oLA 0 406), (406, oLI 3 407)]
theorem BL_26_ok {G : aG} {d : Nat} {p : Program} {l : Launch} {e : Env} {R : Room} {s : State} {m : MethodId} {args : Array Value} {below : List Frame} {meth : Method} {c : Code} {L k : Nat} {sc : List aV} (C : LC G d p R s m args meth c L k sc) : ∀ q ∈ BL_26 L k sc, OkA G ML d p l e R s m args below meth c q.1 q.2 := List.forall_mem_cons.mpr ⟨okn C kL_399, List.forall_mem_cons.mpr ⟨okn C kL_400, List.forall_mem_cons.mpr ⟨okn C kL_401, List.forall_mem_cons.mpr ⟨okn C kL_402, List.forall_mem_cons.mpr ⟨okn C kL_403, List.forall_mem_cons.mpr ⟨okSc C dL_404, List.forall_mem_cons.mpr ⟨okn C kL_405, List.forall_mem_cons.mpr ⟨okn C kL_406, fun _ h => absurd h List.not_mem_nil⟩⟩⟩⟩⟩⟩⟩⟩
def BL_27 (L k : Nat) (sc : List aV) : List (Nat × aO) := [(407, oS (gKo (.int 2)) 408), (408, oS (gI2 f_iadd) 409), (409, oSc sc 410), (410, oCV 5 137 2), (413, oB2 b_icmp_eq q_eq 774 416), (416, oS (gKo (.int 0)) 417), (418, oLA 1 419), (419, oLA 0 420)]
theorem BL_27_ok {G : aG} {d : Nat} {p : Program} {l : Launch} {e : Env} {R : Room} {s : State} {m : MethodId} {args : Array Value} {below : List Frame} {meth : Method} {c : Code} {L k : Nat} {sc : List aV} (C : LC G d p R s m args meth c L k sc) : ∀ q ∈ BL_27 L k sc, OkA G ML d p l e R s m args below meth c q.1 q.2 := List.forall_mem_cons.mpr ⟨okn C kL_407, List.forall_mem_cons.mpr ⟨okn C kL_408, List.forall_mem_cons.mpr ⟨okSc C dL_409, List.forall_mem_cons.mpr ⟨okn C kL_410, List.forall_mem_cons.mpr ⟨okn C kL_413, List.forall_mem_cons.mpr ⟨okn C kL_416, List.forall_mem_cons.mpr ⟨okn C kL_418, List.forall_mem_cons.mpr ⟨okn C kL_419, fun _ h => absurd h List.not_mem_nil⟩⟩⟩⟩⟩⟩⟩⟩
def BL_28 (L k : Nat) (sc : List aV) : List (Nat × aO) := [(420, oLI 3 421), (421, oS (gKo (.int 1)) 422), (422, oS (gI2 f_iadd) 423), (423, oSc sc 424), (424, oCV 4 73 1), (427, oLA 2 428), (428, oLA 0 429), (429, oLI 3 430)]
theorem BL_28_ok {G : aG} {d : Nat} {p : Program} {l : Launch} {e : Env} {R : Room} {s : State} {m : MethodId} {args : Array Value} {below : List Frame} {meth : Method} {c : Code} {L k : Nat} {sc : List aV} (C : LC G d p R s m args meth c L k sc) : ∀ q ∈ BL_28 L k sc, OkA G ML d p l e R s m args below meth c q.1 q.2 := List.forall_mem_cons.mpr ⟨okn C kL_420, List.forall_mem_cons.mpr ⟨okn C kL_421, List.forall_mem_cons.mpr ⟨okn C kL_422, List.forall_mem_cons.mpr ⟨okSc C dL_423, List.forall_mem_cons.mpr ⟨okn C kL_424, List.forall_mem_cons.mpr ⟨okn C kL_427, List.forall_mem_cons.mpr ⟨okn C kL_428, List.forall_mem_cons.mpr ⟨okn C kL_429, fun _ h => absurd h List.not_mem_nil⟩⟩⟩⟩⟩⟩⟩⟩
def BL_29 (L k : Nat) (sc : List aV) : List (Nat × aO) := [(430, oS (gKo (.int 1)) 431), (431, oS (gI2 f_iadd) 432), (432, oSc sc 433), (433, oCV 5 138 1), (436, oB2 b_icmp_eq q_eq 774 439), (439, oS (gKo (.int 0)) 440), (441, oLA 1 442), (442, oLA 0 443)]
theorem BL_29_ok {G : aG} {d : Nat} {p : Program} {l : Launch} {e : Env} {R : Room} {s : State} {m : MethodId} {args : Array Value} {below : List Frame} {meth : Method} {c : Code} {L k : Nat} {sc : List aV} (C : LC G d p R s m args meth c L k sc) : ∀ q ∈ BL_29 L k sc, OkA G ML d p l e R s m args below meth c q.1 q.2 := List.forall_mem_cons.mpr ⟨okn C kL_430, List.forall_mem_cons.mpr ⟨okn C kL_431, List.forall_mem_cons.mpr ⟨okSc C dL_432, List.forall_mem_cons.mpr ⟨okn C kL_433, List.forall_mem_cons.mpr ⟨okn C kL_436, List.forall_mem_cons.mpr ⟨okn C kL_439, List.forall_mem_cons.mpr ⟨okn C kL_441, List.forall_mem_cons.mpr ⟨okn C kL_442, fun _ h => absurd h List.not_mem_nil⟩⟩⟩⟩⟩⟩⟩⟩
def BL_30 (L k : Nat) (sc : List aV) : List (Nat × aO) := [(443, oLI 3 444), (444, oS (gKo (.int 1)) 445), (445, oS (gI2 f_iadd) 446), (446, oSc sc 447), (447, oLA 0 448), (448, oLI 3 449), (449, oS (gKo (.int 2)) 450), (450, oS (gI2 f_iadd) 451)]
theorem BL_30_ok {G : aG} {d : Nat} {p : Program} {l : Launch} {e : Env} {R : Room} {s : State} {m : MethodId} {args : Array Value} {below : List Frame} {meth : Method} {c : Code} {L k : Nat} {sc : List aV} (C : LC G d p R s m args meth c L k sc) : ∀ q ∈ BL_30 L k sc, OkA G ML d p l e R s m args below meth c q.1 q.2 := List.forall_mem_cons.mpr ⟨okn C kL_443, List.forall_mem_cons.mpr ⟨okn C kL_444, List.forall_mem_cons.mpr ⟨okn C kL_445, List.forall_mem_cons.mpr ⟨okSc C dL_446, List.forall_mem_cons.mpr ⟨okn C kL_447, List.forall_mem_cons.mpr ⟨okn C kL_448, List.forall_mem_cons.mpr ⟨okn C kL_449, List.forall_mem_cons.mpr ⟨okn C kL_450, fun _ h => absurd h List.not_mem_nil⟩⟩⟩⟩⟩⟩⟩⟩
def BL_31 (L k : Nat) (sc : List aV) : List (Nat × aO) := [(451, oSc sc 452), (452, oCV 4 74 2), (455, oLA 2 456), (456, oLA 0 457), (457, oLI 3 458), (458, oS (gKo (.int 1)) 459), (459, oS (gI2 f_iadd) 460), (460, oSc sc 461)]
theorem BL_31_ok {G : aG} {d : Nat} {p : Program} {l : Launch} {e : Env} {R : Room} {s : State} {m : MethodId} {args : Array Value} {below : List Frame} {meth : Method} {c : Code} {L k : Nat} {sc : List aV} (C : LC G d p R s m args meth c L k sc) : ∀ q ∈ BL_31 L k sc, OkA G ML d p l e R s m args below meth c q.1 q.2 := List.forall_mem_cons.mpr ⟨okSc C dL_451, List.forall_mem_cons.mpr ⟨okn C kL_452, List.forall_mem_cons.mpr ⟨okn C kL_455, List.forall_mem_cons.mpr ⟨okn C kL_456, List.forall_mem_cons.mpr ⟨okn C kL_457, List.forall_mem_cons.mpr ⟨okn C kL_458, List.forall_mem_cons.mpr ⟨okn C kL_459, List.forall_mem_cons.mpr ⟨okSc C dL_460, fun _ h => absurd h List.not_mem_nil⟩⟩⟩⟩⟩⟩⟩⟩
def BL_32 (L k : Nat) (sc : List aV) : List (Nat × aO) := [(461, oLA 0 462), (462, oLI 3 463), (463, oS (gKo (.int 2)) 464), (464, oS (gI2 f_iadd) 465), (465, oSc sc 466), (466, oCV 5 140 2), (469, oB2 b_icmp_eq q_eq 774 472), (472, oS (gKo (.int 0)) 473)]
theorem BL_32_ok {G : aG} {d : Nat} {p : Program} {l : Launch} {e : Env} {R : Room} {s : State} {m : MethodId} {args : Array Value} {below : List Frame} {meth : Method} {c : Code} {L k : Nat} {sc : List aV} (C : LC G d p R s m args meth c L k sc) : ∀ q ∈ BL_32 L k sc, OkA G ML d p l e R s m args below meth c q.1 q.2 := List.forall_mem_cons.mpr ⟨okn C kL_461, List.forall_mem_cons.mpr ⟨okn C kL_462, List.forall_mem_cons.mpr ⟨okn C kL_463, List.forall_mem_cons.mpr ⟨okn C kL_464, List.forall_mem_cons.mpr ⟨okSc C dL_465, List.forall_mem_cons.mpr ⟨okn C kL_466, List.forall_mem_cons.mpr ⟨okn C kL_469, List.forall_mem_cons.mpr ⟨okn C kL_472, fun _ h => absurd h List.not_mem_nil⟩⟩⟩⟩⟩⟩⟩⟩
def BL_33 (L k : Nat) (sc : List aV) : List (Nat × aO) := [(474, oLA 1 475), (475, oLA 0 476), (476, oLI 3 477), (477, oS (gKo (.int 1)) 478), (478, oS (gI2 f_iadd) 479), (479, oSc sc 480), (480, oLA 0 481), (481, oLI 3 482)]
theorem BL_33_ok {G : aG} {d : Nat} {p : Program} {l : Launch} {e : Env} {R : Room} {s : State} {m : MethodId} {args : Array Value} {below : List Frame} {meth : Method} {c : Code} {L k : Nat} {sc : List aV} (C : LC G d p R s m args meth c L k sc) : ∀ q ∈ BL_33 L k sc, OkA G ML d p l e R s m args below meth c q.1 q.2 := List.forall_mem_cons.mpr ⟨okn C kL_474, List.forall_mem_cons.mpr ⟨okn C kL_475, List.forall_mem_cons.mpr ⟨okn C kL_476, List.forall_mem_cons.mpr ⟨okn C kL_477, List.forall_mem_cons.mpr ⟨okn C kL_478, List.forall_mem_cons.mpr ⟨okSc C dL_479, List.forall_mem_cons.mpr ⟨okn C kL_480, List.forall_mem_cons.mpr ⟨okn C kL_481, fun _ h => absurd h List.not_mem_nil⟩⟩⟩⟩⟩⟩⟩⟩
def BL_34 (L k : Nat) (sc : List aV) : List (Nat × aO) := [(482, oS (gKo (.int 2)) 483), (483, oS (gI2 f_iadd) 484), (484, oSc sc 485), (485, oCV 4 75 2), (488, oLA 2 489), (489, oLA 0 490), (490, oLI 3 491), (491, oS (gKo (.int 1)) 492)]
theorem BL_34_ok {G : aG} {d : Nat} {p : Program} {l : Launch} {e : Env} {R : Room} {s : State} {m : MethodId} {args : Array Value} {below : List Frame} {meth : Method} {c : Code} {L k : Nat} {sc : List aV} (C : LC G d p R s m args meth c L k sc) : ∀ q ∈ BL_34 L k sc, OkA G ML d p l e R s m args below meth c q.1 q.2 := List.forall_mem_cons.mpr ⟨okn C kL_482, List.forall_mem_cons.mpr ⟨okn C kL_483, List.forall_mem_cons.mpr ⟨okSc C dL_484, List.forall_mem_cons.mpr ⟨okn C kL_485, List.forall_mem_cons.mpr ⟨okn C kL_488, List.forall_mem_cons.mpr ⟨okn C kL_489, List.forall_mem_cons.mpr ⟨okn C kL_490, List.forall_mem_cons.mpr ⟨okn C kL_491, fun _ h => absurd h List.not_mem_nil⟩⟩⟩⟩⟩⟩⟩⟩
def BL_35 (L k : Nat) (sc : List aV) : List (Nat × aO) := [(492, oS (gI2 f_iadd) 493), (493, oSc sc 494), (494, oLA 0 495), (495, oLI 3 496), (496, oS (gKo (.int 2)) 497), (497, oS (gI2 f_iadd) 498), (498, oSc sc 499), (499, oCV 5 141 2)]
theorem BL_35_ok {G : aG} {d : Nat} {p : Program} {l : Launch} {e : Env} {R : Room} {s : State} {m : MethodId} {args : Array Value} {below : List Frame} {meth : Method} {c : Code} {L k : Nat} {sc : List aV} (C : LC G d p R s m args meth c L k sc) : ∀ q ∈ BL_35 L k sc, OkA G ML d p l e R s m args below meth c q.1 q.2 := List.forall_mem_cons.mpr ⟨okn C kL_492, List.forall_mem_cons.mpr ⟨okSc C dL_493, List.forall_mem_cons.mpr ⟨okn C kL_494, List.forall_mem_cons.mpr ⟨okn C kL_495, List.forall_mem_cons.mpr ⟨okn C kL_496, List.forall_mem_cons.mpr ⟨okn C kL_497, List.forall_mem_cons.mpr ⟨okSc C dL_498, List.forall_mem_cons.mpr ⟨okn C kL_499, fun _ h => absurd h List.not_mem_nil⟩⟩⟩⟩⟩⟩⟩⟩
def BL_36 (L k : Nat) (sc : List aV) : List (Nat × aO) := [(502, oB2 b_icmp_eq q_eq 774 505), (505, oS (gKo (.int 0)) 506), (507, oLA 1 508), (508, oLA 0 509), (509, oLI 3 510), (510, oS (gKo (.int 1)) 511), (511, oS (gI2 f_iadd) 512), (512, oSc sc 513)]
theorem BL_36_ok {G : aG} {d : Nat} {p : Program} {l : Launch} {e : Env} {R : Room} {s : State} {m : MethodId} {args : Array Value} {below : List Frame} {meth : Method} {c : Code} {L k : Nat} {sc : List aV} (C : LC G d p R s m args meth c L k sc) : ∀ q ∈ BL_36 L k sc, OkA G ML d p l e R s m args below meth c q.1 q.2 := List.forall_mem_cons.mpr ⟨okn C kL_502, List.forall_mem_cons.mpr ⟨okn C kL_505, List.forall_mem_cons.mpr ⟨okn C kL_507, List.forall_mem_cons.mpr ⟨okn C kL_508, List.forall_mem_cons.mpr ⟨okn C kL_509, List.forall_mem_cons.mpr ⟨okn C kL_510, List.forall_mem_cons.mpr ⟨okn C kL_511, List.forall_mem_cons.mpr ⟨okSc C dL_512, fun _ h => absurd h List.not_mem_nil⟩⟩⟩⟩⟩⟩⟩⟩
def BL_37 (L k : Nat) (sc : List aV) : List (Nat × aO) := [(513, oCV 4 76 1), (516, oLA 2 517), (517, oLA 0 518), (518, oLI 3 519), (519, oS (gKo (.int 1)) 520), (520, oS (gI2 f_iadd) 521), (521, oSc sc 522), (522, oCV 5 144 1)]
theorem BL_37_ok {G : aG} {d : Nat} {p : Program} {l : Launch} {e : Env} {R : Room} {s : State} {m : MethodId} {args : Array Value} {below : List Frame} {meth : Method} {c : Code} {L k : Nat} {sc : List aV} (C : LC G d p R s m args meth c L k sc) : ∀ q ∈ BL_37 L k sc, OkA G ML d p l e R s m args below meth c q.1 q.2 := List.forall_mem_cons.mpr ⟨okn C kL_513, List.forall_mem_cons.mpr ⟨okn C kL_516, List.forall_mem_cons.mpr ⟨okn C kL_517, List.forall_mem_cons.mpr ⟨okn C kL_518, List.forall_mem_cons.mpr ⟨okn C kL_519, List.forall_mem_cons.mpr ⟨okn C kL_520, List.forall_mem_cons.mpr ⟨okSc C dL_521, List.forall_mem_cons.mpr ⟨okn C kL_522, fun _ h => absurd h List.not_mem_nil⟩⟩⟩⟩⟩⟩⟩⟩
def BL_38 (L k : Nat) (sc : List aV) : List (Nat × aO) := [(525, oB2 b_icmp_eq q_eq 774 528), (528, oS (gKo (.int 0)) 529), (530, oLA 1 531), (531, oLA 0 532), (532, oLI 3 533), (533, oS (gKo (.int 1)) 534), (534, oS (gI2 f_iadd) 535), (535, oSc sc 536)]
theorem BL_38_ok {G : aG} {d : Nat} {p : Program} {l : Launch} {e : Env} {R : Room} {s : State} {m : MethodId} {args : Array Value} {below : List Frame} {meth : Method} {c : Code} {L k : Nat} {sc : List aV} (C : LC G d p R s m args meth c L k sc) : ∀ q ∈ BL_38 L k sc, OkA G ML d p l e R s m args below meth c q.1 q.2 := List.forall_mem_cons.mpr ⟨okn C kL_525, List.forall_mem_cons.mpr ⟨okn C kL_528, List.forall_mem_cons.mpr ⟨okn C kL_530, List.forall_mem_cons.mpr ⟨okn C kL_531, List.forall_mem_cons.mpr ⟨okn C kL_532, List.forall_mem_cons.mpr ⟨okn C kL_533, List.forall_mem_cons.mpr ⟨okn C kL_534, List.forall_mem_cons.mpr ⟨okSc C dL_535, fun _ h => absurd h List.not_mem_nil⟩⟩⟩⟩⟩⟩⟩⟩
def BL_39 (L k : Nat) (sc : List aV) : List (Nat × aO) := [(536, oCV 4 77 1), (539, oLA 2 540), (540, oLA 0 541), (541, oLI 3 542), (542, oS (gKo (.int 1)) 543), (543, oS (gI2 f_iadd) 544), (544, oSc sc 545), (545, oCV 5 146 1)]
theorem BL_39_ok {G : aG} {d : Nat} {p : Program} {l : Launch} {e : Env} {R : Room} {s : State} {m : MethodId} {args : Array Value} {below : List Frame} {meth : Method} {c : Code} {L k : Nat} {sc : List aV} (C : LC G d p R s m args meth c L k sc) : ∀ q ∈ BL_39 L k sc, OkA G ML d p l e R s m args below meth c q.1 q.2 := List.forall_mem_cons.mpr ⟨okn C kL_536, List.forall_mem_cons.mpr ⟨okn C kL_539, List.forall_mem_cons.mpr ⟨okn C kL_540, List.forall_mem_cons.mpr ⟨okn C kL_541, List.forall_mem_cons.mpr ⟨okn C kL_542, List.forall_mem_cons.mpr ⟨okn C kL_543, List.forall_mem_cons.mpr ⟨okSc C dL_544, List.forall_mem_cons.mpr ⟨okn C kL_545, fun _ h => absurd h List.not_mem_nil⟩⟩⟩⟩⟩⟩⟩⟩
def BL_40 (L k : Nat) (sc : List aV) : List (Nat × aO) := [(548, oB2 b_icmp_eq q_eq 774 551), (551, oS (gKo (.int 0)) 552), (553, oLA 1 554), (554, oLA 0 555), (555, oLI 3 556), (556, oS (gKo (.int 1)) 557), (557, oS (gI2 f_iadd) 558), (558, oSc sc 559)]
theorem BL_40_ok {G : aG} {d : Nat} {p : Program} {l : Launch} {e : Env} {R : Room} {s : State} {m : MethodId} {args : Array Value} {below : List Frame} {meth : Method} {c : Code} {L k : Nat} {sc : List aV} (C : LC G d p R s m args meth c L k sc) : ∀ q ∈ BL_40 L k sc, OkA G ML d p l e R s m args below meth c q.1 q.2 := List.forall_mem_cons.mpr ⟨okn C kL_548, List.forall_mem_cons.mpr ⟨okn C kL_551, List.forall_mem_cons.mpr ⟨okn C kL_553, List.forall_mem_cons.mpr ⟨okn C kL_554, List.forall_mem_cons.mpr ⟨okn C kL_555, List.forall_mem_cons.mpr ⟨okn C kL_556, List.forall_mem_cons.mpr ⟨okn C kL_557, List.forall_mem_cons.mpr ⟨okSc C dL_558, fun _ h => absurd h List.not_mem_nil⟩⟩⟩⟩⟩⟩⟩⟩
def BL_41 (L k : Nat) (sc : List aV) : List (Nat × aO) := [(559, oCV 4 78 1), (562, oLA 2 563), (563, oLA 0 564), (564, oLI 3 565), (565, oS (gKo (.int 1)) 566), (566, oS (gI2 f_iadd) 567), (567, oSc sc 568), (568, oCV 5 155 1)]
theorem BL_41_ok {G : aG} {d : Nat} {p : Program} {l : Launch} {e : Env} {R : Room} {s : State} {m : MethodId} {args : Array Value} {below : List Frame} {meth : Method} {c : Code} {L k : Nat} {sc : List aV} (C : LC G d p R s m args meth c L k sc) : ∀ q ∈ BL_41 L k sc, OkA G ML d p l e R s m args below meth c q.1 q.2 := List.forall_mem_cons.mpr ⟨okn C kL_559, List.forall_mem_cons.mpr ⟨okn C kL_562, List.forall_mem_cons.mpr ⟨okn C kL_563, List.forall_mem_cons.mpr ⟨okn C kL_564, List.forall_mem_cons.mpr ⟨okn C kL_565, List.forall_mem_cons.mpr ⟨okn C kL_566, List.forall_mem_cons.mpr ⟨okSc C dL_567, List.forall_mem_cons.mpr ⟨okn C kL_568, fun _ h => absurd h List.not_mem_nil⟩⟩⟩⟩⟩⟩⟩⟩
def BL_42 (L k : Nat) (sc : List aV) : List (Nat × aO) := [(571, oB2 b_icmp_eq q_eq 774 574), (574, oS (gKo (.int 0)) 575), (576, oLA 1 577), (577, oCV 4 79 0), (580, oLA 2 581), (581, oCV 5 156 0), (584, oB2 b_icmp_eq q_eq 774 587), (587, oS (gKo (.int 0)) 588)]
theorem BL_42_ok {G : aG} {d : Nat} {p : Program} {l : Launch} {e : Env} {R : Room} {s : State} {m : MethodId} {args : Array Value} {below : List Frame} {meth : Method} {c : Code} {L k : Nat} {sc : List aV} (C : LC G d p R s m args meth c L k sc) : ∀ q ∈ BL_42 L k sc, OkA G ML d p l e R s m args below meth c q.1 q.2 := List.forall_mem_cons.mpr ⟨okn C kL_571, List.forall_mem_cons.mpr ⟨okn C kL_574, List.forall_mem_cons.mpr ⟨okn C kL_576, List.forall_mem_cons.mpr ⟨okn C kL_577, List.forall_mem_cons.mpr ⟨okn C kL_580, List.forall_mem_cons.mpr ⟨okn C kL_581, List.forall_mem_cons.mpr ⟨okn C kL_584, List.forall_mem_cons.mpr ⟨okn C kL_587, fun _ h => absurd h List.not_mem_nil⟩⟩⟩⟩⟩⟩⟩⟩
def BL_43 (L k : Nat) (sc : List aV) : List (Nat × aO) := [(589, oLA 1 590), (590, oLA 0 591), (591, oLI 3 592), (592, oS (gKo (.int 1)) 593), (593, oS (gI2 f_iadd) 594), (594, oSc sc 595), (595, oCV 4 80 1), (598, oLA 2 599)]
theorem BL_43_ok {G : aG} {d : Nat} {p : Program} {l : Launch} {e : Env} {R : Room} {s : State} {m : MethodId} {args : Array Value} {below : List Frame} {meth : Method} {c : Code} {L k : Nat} {sc : List aV} (C : LC G d p R s m args meth c L k sc) : ∀ q ∈ BL_43 L k sc, OkA G ML d p l e R s m args below meth c q.1 q.2 := List.forall_mem_cons.mpr ⟨okn C kL_589, List.forall_mem_cons.mpr ⟨okn C kL_590, List.forall_mem_cons.mpr ⟨okn C kL_591, List.forall_mem_cons.mpr ⟨okn C kL_592, List.forall_mem_cons.mpr ⟨okn C kL_593, List.forall_mem_cons.mpr ⟨okSc C dL_594, List.forall_mem_cons.mpr ⟨okn C kL_595, List.forall_mem_cons.mpr ⟨okn C kL_598, fun _ h => absurd h List.not_mem_nil⟩⟩⟩⟩⟩⟩⟩⟩
def BL_44 (L k : Nat) (sc : List aV) : List (Nat × aO) := [(599, oLA 0 600), (600, oLI 3 601), (601, oS (gKo (.int 1)) 602), (602, oS (gI2 f_iadd) 603), (603, oSc sc 604), (604, oCV 5 158 1), (607, oB2 b_icmp_eq q_eq 774 610), (610, oS (gKo (.int 0)) 611)]
theorem BL_44_ok {G : aG} {d : Nat} {p : Program} {l : Launch} {e : Env} {R : Room} {s : State} {m : MethodId} {args : Array Value} {below : List Frame} {meth : Method} {c : Code} {L k : Nat} {sc : List aV} (C : LC G d p R s m args meth c L k sc) : ∀ q ∈ BL_44 L k sc, OkA G ML d p l e R s m args below meth c q.1 q.2 := List.forall_mem_cons.mpr ⟨okn C kL_599, List.forall_mem_cons.mpr ⟨okn C kL_600, List.forall_mem_cons.mpr ⟨okn C kL_601, List.forall_mem_cons.mpr ⟨okn C kL_602, List.forall_mem_cons.mpr ⟨okSc C dL_603, List.forall_mem_cons.mpr ⟨okn C kL_604, List.forall_mem_cons.mpr ⟨okn C kL_607, List.forall_mem_cons.mpr ⟨okn C kL_610, fun _ h => absurd h List.not_mem_nil⟩⟩⟩⟩⟩⟩⟩⟩
def BL_45 (L k : Nat) (sc : List aV) : List (Nat × aO) := [(612, oLA 1 613), (613, oLA 0 614), (614, oLI 3 615), (615, oS (gKo (.int 1)) 616), (616, oS (gI2 f_iadd) 617), (617, oSc sc 618), (618, oLA 0 619), (619, oLI 3 620)]
theorem BL_45_ok {G : aG} {d : Nat} {p : Program} {l : Launch} {e : Env} {R : Room} {s : State} {m : MethodId} {args : Array Value} {below : List Frame} {meth : Method} {c : Code} {L k : Nat} {sc : List aV} (C : LC G d p R s m args meth c L k sc) : ∀ q ∈ BL_45 L k sc, OkA G ML d p l e R s m args below meth c q.1 q.2 := List.forall_mem_cons.mpr ⟨okn C kL_612, List.forall_mem_cons.mpr ⟨okn C kL_613, List.forall_mem_cons.mpr ⟨okn C kL_614, List.forall_mem_cons.mpr ⟨okn C kL_615, List.forall_mem_cons.mpr ⟨okn C kL_616, List.forall_mem_cons.mpr ⟨okSc C dL_617, List.forall_mem_cons.mpr ⟨okn C kL_618, List.forall_mem_cons.mpr ⟨okn C kL_619, fun _ h => absurd h List.not_mem_nil⟩⟩⟩⟩⟩⟩⟩⟩
def BL_46 (L k : Nat) (sc : List aV) : List (Nat × aO) := [(620, oS (gKo (.int 2)) 621), (621, oS (gI2 f_iadd) 622), (622, oSc sc 623), (623, oCV 4 81 2), (626, oLA 2 627), (627, oLA 0 628), (628, oLI 3 629), (629, oS (gKo (.int 1)) 630)]
theorem BL_46_ok {G : aG} {d : Nat} {p : Program} {l : Launch} {e : Env} {R : Room} {s : State} {m : MethodId} {args : Array Value} {below : List Frame} {meth : Method} {c : Code} {L k : Nat} {sc : List aV} (C : LC G d p R s m args meth c L k sc) : ∀ q ∈ BL_46 L k sc, OkA G ML d p l e R s m args below meth c q.1 q.2 := List.forall_mem_cons.mpr ⟨okn C kL_620, List.forall_mem_cons.mpr ⟨okn C kL_621, List.forall_mem_cons.mpr ⟨okSc C dL_622, List.forall_mem_cons.mpr ⟨okn C kL_623, List.forall_mem_cons.mpr ⟨okn C kL_626, List.forall_mem_cons.mpr ⟨okn C kL_627, List.forall_mem_cons.mpr ⟨okn C kL_628, List.forall_mem_cons.mpr ⟨okn C kL_629, fun _ h => absurd h List.not_mem_nil⟩⟩⟩⟩⟩⟩⟩⟩
def BL_47 (L k : Nat) (sc : List aV) : List (Nat × aO) := [(630, oS (gI2 f_iadd) 631), (631, oSc sc 632), (632, oLA 0 633), (633, oLI 3 634), (634, oS (gKo (.int 2)) 635), (635, oS (gI2 f_iadd) 636), (636, oSc sc 637), (637, oCV 5 159 2)]
theorem BL_47_ok {G : aG} {d : Nat} {p : Program} {l : Launch} {e : Env} {R : Room} {s : State} {m : MethodId} {args : Array Value} {below : List Frame} {meth : Method} {c : Code} {L k : Nat} {sc : List aV} (C : LC G d p R s m args meth c L k sc) : ∀ q ∈ BL_47 L k sc, OkA G ML d p l e R s m args below meth c q.1 q.2 := List.forall_mem_cons.mpr ⟨okn C kL_630, List.forall_mem_cons.mpr ⟨okSc C dL_631, List.forall_mem_cons.mpr ⟨okn C kL_632, List.forall_mem_cons.mpr ⟨okn C kL_633, List.forall_mem_cons.mpr ⟨okn C kL_634, List.forall_mem_cons.mpr ⟨okn C kL_635, List.forall_mem_cons.mpr ⟨okSc C dL_636, List.forall_mem_cons.mpr ⟨okn C kL_637, fun _ h => absurd h List.not_mem_nil⟩⟩⟩⟩⟩⟩⟩⟩
def BL_48 (L k : Nat) (sc : List aV) : List (Nat × aO) := [(640, oB2 b_icmp_eq q_eq 774 643), (643, oS (gKo (.int 0)) 644), (645, oLA 1 646), (646, oLA 0 647), (647, oLI 3 648), (648, oS (gKo (.int 1)) 649), (649, oS (gI2 f_iadd) 650), (650, oSc sc 651)]
theorem BL_48_ok {G : aG} {d : Nat} {p : Program} {l : Launch} {e : Env} {R : Room} {s : State} {m : MethodId} {args : Array Value} {below : List Frame} {meth : Method} {c : Code} {L k : Nat} {sc : List aV} (C : LC G d p R s m args meth c L k sc) : ∀ q ∈ BL_48 L k sc, OkA G ML d p l e R s m args below meth c q.1 q.2 := List.forall_mem_cons.mpr ⟨okn C kL_640, List.forall_mem_cons.mpr ⟨okn C kL_643, List.forall_mem_cons.mpr ⟨okn C kL_645, List.forall_mem_cons.mpr ⟨okn C kL_646, List.forall_mem_cons.mpr ⟨okn C kL_647, List.forall_mem_cons.mpr ⟨okn C kL_648, List.forall_mem_cons.mpr ⟨okn C kL_649, List.forall_mem_cons.mpr ⟨okSc C dL_650, fun _ h => absurd h List.not_mem_nil⟩⟩⟩⟩⟩⟩⟩⟩
def BL_49 (L k : Nat) (sc : List aV) : List (Nat × aO) := [(651, oCV 4 82 1), (654, oLA 2 655), (655, oLA 0 656), (656, oLI 3 657), (657, oS (gKo (.int 1)) 658), (658, oS (gI2 f_iadd) 659), (659, oSc sc 660), (660, oCV 5 160 1)]
theorem BL_49_ok {G : aG} {d : Nat} {p : Program} {l : Launch} {e : Env} {R : Room} {s : State} {m : MethodId} {args : Array Value} {below : List Frame} {meth : Method} {c : Code} {L k : Nat} {sc : List aV} (C : LC G d p R s m args meth c L k sc) : ∀ q ∈ BL_49 L k sc, OkA G ML d p l e R s m args below meth c q.1 q.2 := List.forall_mem_cons.mpr ⟨okn C kL_651, List.forall_mem_cons.mpr ⟨okn C kL_654, List.forall_mem_cons.mpr ⟨okn C kL_655, List.forall_mem_cons.mpr ⟨okn C kL_656, List.forall_mem_cons.mpr ⟨okn C kL_657, List.forall_mem_cons.mpr ⟨okn C kL_658, List.forall_mem_cons.mpr ⟨okSc C dL_659, List.forall_mem_cons.mpr ⟨okn C kL_660, fun _ h => absurd h List.not_mem_nil⟩⟩⟩⟩⟩⟩⟩⟩
def BL_50 (L k : Nat) (sc : List aV) : List (Nat × aO) := [(663, oB2 b_icmp_eq q_eq 774 666), (666, oS (gKo (.int 0)) 667), (668, oLA 1 669), (669, oLA 0 670), (670, oLI 3 671), (671, oS (gKo (.int 1)) 672), (672, oS (gI2 f_iadd) 673), (673, oSc sc 674)]
theorem BL_50_ok {G : aG} {d : Nat} {p : Program} {l : Launch} {e : Env} {R : Room} {s : State} {m : MethodId} {args : Array Value} {below : List Frame} {meth : Method} {c : Code} {L k : Nat} {sc : List aV} (C : LC G d p R s m args meth c L k sc) : ∀ q ∈ BL_50 L k sc, OkA G ML d p l e R s m args below meth c q.1 q.2 := List.forall_mem_cons.mpr ⟨okn C kL_663, List.forall_mem_cons.mpr ⟨okn C kL_666, List.forall_mem_cons.mpr ⟨okn C kL_668, List.forall_mem_cons.mpr ⟨okn C kL_669, List.forall_mem_cons.mpr ⟨okn C kL_670, List.forall_mem_cons.mpr ⟨okn C kL_671, List.forall_mem_cons.mpr ⟨okn C kL_672, List.forall_mem_cons.mpr ⟨okSc C dL_673, fun _ h => absurd h List.not_mem_nil⟩⟩⟩⟩⟩⟩⟩⟩
def BL_51 (L k : Nat) (sc : List aV) : List (Nat × aO) := [(674, oCV 4 83 1), (677, oLA 2 678), (678, oLA 0 679), (679, oLI 3 680), (680, oS (gKo (.int 1)) 681), (681, oS (gI2 f_iadd) 682), (682, oSc sc 683), (683, oCV 5 161 1)]
theorem BL_51_ok {G : aG} {d : Nat} {p : Program} {l : Launch} {e : Env} {R : Room} {s : State} {m : MethodId} {args : Array Value} {below : List Frame} {meth : Method} {c : Code} {L k : Nat} {sc : List aV} (C : LC G d p R s m args meth c L k sc) : ∀ q ∈ BL_51 L k sc, OkA G ML d p l e R s m args below meth c q.1 q.2 := List.forall_mem_cons.mpr ⟨okn C kL_674, List.forall_mem_cons.mpr ⟨okn C kL_677, List.forall_mem_cons.mpr ⟨okn C kL_678, List.forall_mem_cons.mpr ⟨okn C kL_679, List.forall_mem_cons.mpr ⟨okn C kL_680, List.forall_mem_cons.mpr ⟨okn C kL_681, List.forall_mem_cons.mpr ⟨okSc C dL_682, List.forall_mem_cons.mpr ⟨okn C kL_683, fun _ h => absurd h List.not_mem_nil⟩⟩⟩⟩⟩⟩⟩⟩
def BL_52 (L k : Nat) (sc : List aV) : List (Nat × aO) := [(686, oB2 b_icmp_eq q_eq 774 689), (689, oS (gKo (.int 0)) 690), (691, oLA 1 692), (692, oLA 0 693), (693, oLI 3 694), (694, oS (gKo (.int 1)) 695), (695, oS (gI2 f_iadd) 696), (696, oSc sc 697)]
theorem BL_52_ok {G : aG} {d : Nat} {p : Program} {l : Launch} {e : Env} {R : Room} {s : State} {m : MethodId} {args : Array Value} {below : List Frame} {meth : Method} {c : Code} {L k : Nat} {sc : List aV} (C : LC G d p R s m args meth c L k sc) : ∀ q ∈ BL_52 L k sc, OkA G ML d p l e R s m args below meth c q.1 q.2 := List.forall_mem_cons.mpr ⟨okn C kL_686, List.forall_mem_cons.mpr ⟨okn C kL_689, List.forall_mem_cons.mpr ⟨okn C kL_691, List.forall_mem_cons.mpr ⟨okn C kL_692, List.forall_mem_cons.mpr ⟨okn C kL_693, List.forall_mem_cons.mpr ⟨okn C kL_694, List.forall_mem_cons.mpr ⟨okn C kL_695, List.forall_mem_cons.mpr ⟨okSc C dL_696, fun _ h => absurd h List.not_mem_nil⟩⟩⟩⟩⟩⟩⟩⟩
def BL_53 (L k : Nat) (sc : List aV) : List (Nat × aO) := [(697, oLA 0 698), (698, oLI 3 699), (699, oS (gKo (.int 2)) 700), (700, oS (gI2 f_iadd) 701), (701, oSc sc 702), (702, oCV 4 84 2), (705, oLA 2 706), (706, oLA 0 707)]
theorem BL_53_ok {G : aG} {d : Nat} {p : Program} {l : Launch} {e : Env} {R : Room} {s : State} {m : MethodId} {args : Array Value} {below : List Frame} {meth : Method} {c : Code} {L k : Nat} {sc : List aV} (C : LC G d p R s m args meth c L k sc) : ∀ q ∈ BL_53 L k sc, OkA G ML d p l e R s m args below meth c q.1 q.2 := List.forall_mem_cons.mpr ⟨okn C kL_697, List.forall_mem_cons.mpr ⟨okn C kL_698, List.forall_mem_cons.mpr ⟨okn C kL_699, List.forall_mem_cons.mpr ⟨okn C kL_700, List.forall_mem_cons.mpr ⟨okSc C dL_701, List.forall_mem_cons.mpr ⟨okn C kL_702, List.forall_mem_cons.mpr ⟨okn C kL_705, List.forall_mem_cons.mpr ⟨okn C kL_706, fun _ h => absurd h List.not_mem_nil⟩⟩⟩⟩⟩⟩⟩⟩
def BL_54 (L k : Nat) (sc : List aV) : List (Nat × aO) := [(707, oLI 3 708), (708, oS (gKo (.int 1)) 709), (709, oS (gI2 f_iadd) 710), (710, oSc sc 711), (711, oLA 0 712), (712, oLI 3 713), (713, oS (gKo (.int 2)) 714), (714, oS (gI2 f_iadd) 715)]
theorem BL_54_ok {G : aG} {d : Nat} {p : Program} {l : Launch} {e : Env} {R : Room} {s : State} {m : MethodId} {args : Array Value} {below : List Frame} {meth : Method} {c : Code} {L k : Nat} {sc : List aV} (C : LC G d p R s m args meth c L k sc) : ∀ q ∈ BL_54 L k sc, OkA G ML d p l e R s m args below meth c q.1 q.2 := List.forall_mem_cons.mpr ⟨okn C kL_707, List.forall_mem_cons.mpr ⟨okn C kL_708, List.forall_mem_cons.mpr ⟨okn C kL_709, List.forall_mem_cons.mpr ⟨okSc C dL_710, List.forall_mem_cons.mpr ⟨okn C kL_711, List.forall_mem_cons.mpr ⟨okn C kL_712, List.forall_mem_cons.mpr ⟨okn C kL_713, List.forall_mem_cons.mpr ⟨okn C kL_714, fun _ h => absurd h List.not_mem_nil⟩⟩⟩⟩⟩⟩⟩⟩
def BL_55 (L k : Nat) (sc : List aV) : List (Nat × aO) := [(715, oSc sc 716), (716, oCV 5 163 2), (719, oB2 b_icmp_eq q_eq 774 722), (722, oS (gKo (.int 0)) 723), (724, oLA 1 725), (725, oCV 4 85 0), (728, oLA 2 729), (729, oCV 5 164 0)]
theorem BL_55_ok {G : aG} {d : Nat} {p : Program} {l : Launch} {e : Env} {R : Room} {s : State} {m : MethodId} {args : Array Value} {below : List Frame} {meth : Method} {c : Code} {L k : Nat} {sc : List aV} (C : LC G d p R s m args meth c L k sc) : ∀ q ∈ BL_55 L k sc, OkA G ML d p l e R s m args below meth c q.1 q.2 := List.forall_mem_cons.mpr ⟨okSc C dL_715, List.forall_mem_cons.mpr ⟨okn C kL_716, List.forall_mem_cons.mpr ⟨okn C kL_719, List.forall_mem_cons.mpr ⟨okn C kL_722, List.forall_mem_cons.mpr ⟨okn C kL_724, List.forall_mem_cons.mpr ⟨okn C kL_725, List.forall_mem_cons.mpr ⟨okn C kL_728, List.forall_mem_cons.mpr ⟨okn C kL_729, fun _ h => absurd h List.not_mem_nil⟩⟩⟩⟩⟩⟩⟩⟩
def BL_56 (L k : Nat) (sc : List aV) : List (Nat × aO) := [(732, oB2 b_icmp_eq q_eq 774 735), (735, oS (gKo (.int 0)) 736), (737, oLA 1 738), (738, oLA 0 739), (739, oLI 3 740), (740, oS (gKo (.int 1)) 741), (741, oS (gI2 f_iadd) 742), (742, oSc sc 743)]
theorem BL_56_ok {G : aG} {d : Nat} {p : Program} {l : Launch} {e : Env} {R : Room} {s : State} {m : MethodId} {args : Array Value} {below : List Frame} {meth : Method} {c : Code} {L k : Nat} {sc : List aV} (C : LC G d p R s m args meth c L k sc) : ∀ q ∈ BL_56 L k sc, OkA G ML d p l e R s m args below meth c q.1 q.2 := List.forall_mem_cons.mpr ⟨okn C kL_732, List.forall_mem_cons.mpr ⟨okn C kL_735, List.forall_mem_cons.mpr ⟨okn C kL_737, List.forall_mem_cons.mpr ⟨okn C kL_738, List.forall_mem_cons.mpr ⟨okn C kL_739, List.forall_mem_cons.mpr ⟨okn C kL_740, List.forall_mem_cons.mpr ⟨okn C kL_741, List.forall_mem_cons.mpr ⟨okSc C dL_742, fun _ h => absurd h List.not_mem_nil⟩⟩⟩⟩⟩⟩⟩⟩
def BL_57 (L k : Nat) (sc : List aV) : List (Nat × aO) := [(743, oCV 4 86 1), (746, oLA 2 747), (747, oLA 0 748), (748, oLI 3 749), (749, oS (gKo (.int 1)) 750), (750, oS (gI2 f_iadd) 751), (751, oSc sc 752), (752, oCV 5 166 1)]
theorem BL_57_ok {G : aG} {d : Nat} {p : Program} {l : Launch} {e : Env} {R : Room} {s : State} {m : MethodId} {args : Array Value} {below : List Frame} {meth : Method} {c : Code} {L k : Nat} {sc : List aV} (C : LC G d p R s m args meth c L k sc) : ∀ q ∈ BL_57 L k sc, OkA G ML d p l e R s m args below meth c q.1 q.2 := List.forall_mem_cons.mpr ⟨okn C kL_743, List.forall_mem_cons.mpr ⟨okn C kL_746, List.forall_mem_cons.mpr ⟨okn C kL_747, List.forall_mem_cons.mpr ⟨okn C kL_748, List.forall_mem_cons.mpr ⟨okn C kL_749, List.forall_mem_cons.mpr ⟨okn C kL_750, List.forall_mem_cons.mpr ⟨okSc C dL_751, List.forall_mem_cons.mpr ⟨okn C kL_752, fun _ h => absurd h List.not_mem_nil⟩⟩⟩⟩⟩⟩⟩⟩
def BL_58 (L k : Nat) (sc : List aV) : List (Nat × aO) := [(755, oB2 b_icmp_eq q_eq 774 758), (758, oS (gKo (.int 0)) 759), (760, oLA 1 761), (761, oCV 4 87 0), (764, oLA 2 765), (765, oCV 5 167 0), (768, oS gCm 769), (769, oB1 b_if_eq q_eq 774 772)]
theorem BL_58_ok {G : aG} {d : Nat} {p : Program} {l : Launch} {e : Env} {R : Room} {s : State} {m : MethodId} {args : Array Value} {below : List Frame} {meth : Method} {c : Code} {L k : Nat} {sc : List aV} (C : LC G d p R s m args meth c L k sc) : ∀ q ∈ BL_58 L k sc, OkA G ML d p l e R s m args below meth c q.1 q.2 := List.forall_mem_cons.mpr ⟨okn C kL_755, List.forall_mem_cons.mpr ⟨okn C kL_758, List.forall_mem_cons.mpr ⟨okn C kL_760, List.forall_mem_cons.mpr ⟨okn C kL_761, List.forall_mem_cons.mpr ⟨okn C kL_764, List.forall_mem_cons.mpr ⟨okn C kL_765, List.forall_mem_cons.mpr ⟨okn C kL_768, List.forall_mem_cons.mpr ⟨okn C kL_769, fun _ h => absurd h List.not_mem_nil⟩⟩⟩⟩⟩⟩⟩⟩
def BL_59 (L k : Nat) (sc : List aV) : List (Nat × aO) := [(772, oS (gKo (.int 0)) 773), (774, oInc 3 4 4 777), (777, oGo 18)]
theorem BL_59_ok {G : aG} {d : Nat} {p : Program} {l : Launch} {e : Env} {R : Room} {s : State} {m : MethodId} {args : Array Value} {below : List Frame} {meth : Method} {c : Code} {L k : Nat} {sc : List aV} (C : LC G d p R s m args meth c L k sc) : ∀ q ∈ BL_59 L k sc, OkA G ML d p l e R s m args below meth c q.1 q.2 := List.forall_mem_cons.mpr ⟨okn C kL_772, List.forall_mem_cons.mpr ⟨okn C kL_774, List.forall_mem_cons.mpr ⟨okn C kL_777, fun _ h => absurd h List.not_mem_nil⟩⟩⟩
def PL (L k : Nat) (sc : List aV) : aP := [(15, BL_0 L k sc), (23, BL_1 L k sc), (149, BL_2 L k sc), (159, BL_3 L k sc), (172, BL_4 L k sc), (189, BL_5 L k sc), (202, BL_6 L k sc), (212, BL_7 L k sc), (225, BL_8 L k sc), (235, BL_9 L k sc), (243, BL_10 L k sc), (256, BL_11 L k sc), (264, BL_12 L k sc), (274, BL_13 L k sc), (287, BL_14 L k sc), (295, BL_15 L k sc), (305, BL_16 L k sc), (317, BL_17 L k sc), (328, BL_18 L k sc), (340, BL_19 L k sc), (349, BL_20 L k sc), (357, BL_21 L k sc), (367, BL_22 L k sc), (375, BL_23 L k sc), (388, BL_24 L k sc), (396, BL_25 L k sc), (406, BL_26 L k sc), (419, BL_27 L k sc), (429, BL_28 L k sc), (442, BL_29 L k sc), (450, BL_30 L k sc), (460, BL_31 L k sc), (472, BL_32 L k sc), (481, BL_33 L k sc), (491, BL_34 L k sc), (499, BL_35 L k sc), (512, BL_36 L k sc), (522, BL_37 L k sc), (535, BL_38 L k sc), (545, BL_39 L k sc), (558, BL_40 L k sc), (568, BL_41 L k sc), (587, BL_42 L k sc), (598, BL_43 L k sc), (610, BL_44 L k sc), (619, BL_45 L k sc), (629, BL_46 L k sc), (637, BL_47 L k sc), (650, BL_48 L k sc), (660, BL_49 L k sc), (673, BL_50 L k sc), (683, BL_51 L k sc), (696, BL_52 L k sc), (706, BL_53 L k sc), (714, BL_54 L k sc), (729, BL_55 L k sc), (742, BL_56 L k sc), (752, BL_57 L k sc), (769, BL_58 L k sc), (777, BL_59 L k sc)]
theorem PL_ok {G : aG} {d : Nat} {p : Program} {l : Launch} {e : Env} {R : Room} {s : State} {m : MethodId} {args : Array Value} {below : List Frame} {meth : Method} {c : Code} {L k : Nat} {sc : List aV} (C : LC G d p R s m args meth c L k sc) : ∀ b ∈ PL L k sc, ∀ q ∈ b.2, OkA G ML d p l e R s m args below meth c q.1 q.2 := List.forall_mem_cons.mpr ⟨BL_0_ok C, List.forall_mem_cons.mpr ⟨BL_1_ok C, List.forall_mem_cons.mpr ⟨BL_2_ok C, List.forall_mem_cons.mpr ⟨BL_3_ok C, List.forall_mem_cons.mpr ⟨BL_4_ok C, List.forall_mem_cons.mpr ⟨BL_5_ok C, List.forall_mem_cons.mpr ⟨BL_6_ok C, List.forall_mem_cons.mpr ⟨BL_7_ok C, List.forall_mem_cons.mpr ⟨BL_8_ok C, List.forall_mem_cons.mpr ⟨BL_9_ok C, List.forall_mem_cons.mpr ⟨BL_10_ok C, List.forall_mem_cons.mpr ⟨BL_11_ok C, List.forall_mem_cons.mpr ⟨BL_12_ok C, List.forall_mem_cons.mpr ⟨BL_13_ok C, List.forall_mem_cons.mpr ⟨BL_14_ok C, List.forall_mem_cons.mpr ⟨BL_15_ok C, List.forall_mem_cons.mpr ⟨BL_16_ok C, List.forall_mem_cons.mpr ⟨BL_17_ok C, List.forall_mem_cons.mpr ⟨BL_18_ok C, List.forall_mem_cons.mpr ⟨BL_19_ok C, List.forall_mem_cons.mpr ⟨BL_20_ok C, List.forall_mem_cons.mpr ⟨BL_21_ok C, List.forall_mem_cons.mpr ⟨BL_22_ok C, List.forall_mem_cons.mpr ⟨BL_23_ok C, List.forall_mem_cons.mpr ⟨BL_24_ok C, List.forall_mem_cons.mpr ⟨BL_25_ok C, List.forall_mem_cons.mpr ⟨BL_26_ok C, List.forall_mem_cons.mpr ⟨BL_27_ok C, List.forall_mem_cons.mpr ⟨BL_28_ok C, List.forall_mem_cons.mpr ⟨BL_29_ok C, List.forall_mem_cons.mpr ⟨BL_30_ok C, List.forall_mem_cons.mpr ⟨BL_31_ok C, List.forall_mem_cons.mpr ⟨BL_32_ok C, List.forall_mem_cons.mpr ⟨BL_33_ok C, List.forall_mem_cons.mpr ⟨BL_34_ok C, List.forall_mem_cons.mpr ⟨BL_35_ok C, List.forall_mem_cons.mpr ⟨BL_36_ok C, List.forall_mem_cons.mpr ⟨BL_37_ok C, List.forall_mem_cons.mpr ⟨BL_38_ok C, List.forall_mem_cons.mpr ⟨BL_39_ok C, List.forall_mem_cons.mpr ⟨BL_40_ok C, List.forall_mem_cons.mpr ⟨BL_41_ok C, List.forall_mem_cons.mpr ⟨BL_42_ok C, List.forall_mem_cons.mpr ⟨BL_43_ok C, List.forall_mem_cons.mpr ⟨BL_44_ok C, List.forall_mem_cons.mpr ⟨BL_45_ok C, List.forall_mem_cons.mpr ⟨BL_46_ok C, List.forall_mem_cons.mpr ⟨BL_47_ok C, List.forall_mem_cons.mpr ⟨BL_48_ok C, List.forall_mem_cons.mpr ⟨BL_49_ok C, List.forall_mem_cons.mpr ⟨BL_50_ok C, List.forall_mem_cons.mpr ⟨BL_51_ok C, List.forall_mem_cons.mpr ⟨BL_52_ok C, List.forall_mem_cons.mpr ⟨BL_53_ok C, List.forall_mem_cons.mpr ⟨BL_54_ok C, List.forall_mem_cons.mpr ⟨BL_55_ok C, List.forall_mem_cons.mpr ⟨BL_56_ok C, List.forall_mem_cons.mpr ⟨BL_57_ok C, List.forall_mem_cons.mpr ⟨BL_58_ok C, List.forall_mem_cons.mpr ⟨BL_59_ok C, fun _ h => absurd h List.not_mem_nil⟩⟩⟩⟩⟩⟩⟩⟩⟩⟩⟩⟩⟩⟩⟩⟩⟩⟩⟩⟩⟩⟩⟩⟩⟩⟩⟩⟩⟩⟩⟩⟩⟩⟩⟩⟩⟩⟩⟩⟩⟩⟩⟩⟩⟩⟩⟩⟩⟩⟩⟩⟩⟩⟩⟩⟩⟩⟩⟩⟩
