/-! THE LAW's own steps -/
def ML : aM := (yL_law, code, 4, some .boolean)
def gPo : List aV → Option (List aV)
  | .inl (.int _) :: r => some r
  | _ => none
def gPp : List aV → Option (List aV)
  | .inl (.long _) :: r => some r
  | _ => none
def oPo (n : Nat) : aO := oS gPo n
def oPp (n : Nat) : aO := oS gPp n
theorem r_pop {M : aM} {pc : Nat} (hd : decode M.2.1 pc = .ok (.pop, 1)) : Ok M pc (oPo (pc + 1)) := ok_S (by
  intro p l e R s m args below meth c H locs cells slots Q ls G st st' hρ hx hb hg k
  unfold gPo at hg
  split at hg
  · cases hg
    exact lv_pop hx hb hd rfl k
  · cases hg)
theorem r_pop2 {M : aM} {pc : Nat} (hd : decode M.2.1 pc = .ok (.pop2, 1)) : Ok M pc (oPp (pc + 1)) := ok_S (by
  intro p l e R s m args below meth c H locs cells slots Q ls G st st' hρ hx hb hg k
  unfold gPp at hg
  split at hg
  · cases hg
    exact lv_pop2_2 hx hb hd rfl k
  · cases hg)
theorem kL_0 : Ok ML 0 (oNO 4 9 [.null, .null, .null, .null, .null, .int 0, .int 0, .int 0, .int 0] 3) := r_new (idx := 7) (fs := [.null, .null, .null, .null, .null, .int 0, .int 0, .int 0, .int 0]) (by decide +kernel) cd_4 w_80 (fun S j hj => by
  have : j < 9 := hj
  match j, this with
  | 0, _ => rfl
  | 1, _ => rfl
  | 2, _ => rfl
  | 3, _ => rfl
  | 4, _ => rfl
  | 5, _ => rfl
  | 6, _ => rfl
  | 7, _ => rfl
  | 8, _ => rfl
  | (j + 9), h => exact absurd h (by omega))
theorem kL_3 : Ok ML 3 (oS gDu 4) := r_dup (by decide +kernel)
theorem kL_4 : Ok ML 4 (oCI 62 0) := r_callI (idx := 9) (by decide +kernel) w_82 cn_62
theorem kL_7 : Ok ML 7 (oSA 1 4 8) := r_astore_n (j := 1) (by decide +kernel) rfl
theorem kL_8 : Ok ML 8 (oNO 5 20 [.null, .int 0, .null, .null, .int 0, .null, .int 0, .int 0, .int 0, .int 0, .int 0, .int 0, .null, .null, .null, .null, .null, .int 0, .null, .int 0] 11) := r_new (idx := 10) (fs := [.null, .int 0, .null, .null, .int 0, .null, .int 0, .int 0, .int 0, .int 0, .int 0, .int 0, .null, .null, .null, .null, .null, .int 0, .null, .int 0]) (by decide +kernel) cd_5 w_672 (fun S j hj => by
  have : j < 20 := hj
  match j, this with
  | 0, _ => rfl
  | 1, _ => rfl
  | 2, _ => rfl
  | 3, _ => rfl
  | 4, _ => rfl
  | 5, _ => rfl
  | 6, _ => rfl
  | 7, _ => rfl
  | 8, _ => rfl
  | 9, _ => rfl
  | 10, _ => rfl
  | 11, _ => rfl
  | 12, _ => rfl
  | 13, _ => rfl
  | 14, _ => rfl
  | 15, _ => rfl
  | 16, _ => rfl
  | 17, _ => rfl
  | 18, _ => rfl
  | 19, _ => rfl
  | (j + 20), h => exact absurd h (by omega))
theorem kL_11 : Ok ML 11 (oS gDu 12) := r_dup (by decide +kernel)
theorem kL_12 : Ok ML 12 (oCI 95 0) := r_callI (idx := 12) (by decide +kernel) w_674 cn_95
theorem kL_15 : Ok ML 15 (oSA 2 4 16) := r_astore_n (j := 2) (by decide +kernel) rfl
theorem kL_16 : Ok ML 16 (oS (gKo (.int 0)) 17) := r_iconst (n := 0) (by decide +kernel) (by decide +kernel)
theorem kL_17 : Ok ML 17 (oSI 3 4 18) := r_istore_n (j := 3) (by decide +kernel) rfl
theorem kL_18 : Ok ML 18 (oLI 3 19) := r_iload_n (j := 3) (by decide +kernel) rfl
theorem kL_19 : Ok ML 19 (oLA 0 20) := r_aload_n (j := 0) (by decide +kernel) rfl
theorem kL_21 : Ok ML 21 (oS (gKo (.int 4)) 22) := r_iconst (n := 4) (by decide +kernel) (by decide +kernel)
theorem kL_22 : Ok ML 22 (oS (gI2 f_isub) 23) := r_isub (by decide +kernel)
theorem kL_23 : Ok ML 23 (oB2 b_icmp_gt q_gt 779 26) := r_icmp_gt (off := 756) (by decide +kernel) (by decide +kernel)
theorem kL_26 : Ok ML 26 (oLA 0 27) := r_aload_n (j := 0) (by decide +kernel) rfl
theorem kL_27 : Ok ML 27 (oLI 3 28) := r_iload_n (j := 3) (by decide +kernel) rfl
theorem kL_29 : Ok ML 29 (oS (gKo (.int 31)) 31) := r_bipush (n := 31) (by decide +kernel) (by decide +kernel)
theorem kL_32 : Ok ML 32 (oTb [148, 171, 184, 197, 220, 253, 286, 319, 342, 385, 418, 441, 474, 507, 530, 553, 576, 589, 612, 645, 668, 691, 724, 737, 760] 773) := r_table (dflt := 741) (hi := 24) (offs := #[116, 139, 152, 165, 188, 221, 254, 287, 310, 353, 386, 409, 442, 475, 498, 521, 544, 557, 580, 613, 636, 659, 692, 705, 728]) (len := 116) (by decide +kernel) (by decide +kernel) (by decide +kernel) (by decide +kernel)
theorem kL_148 : Ok ML 148 (oLA 1 149) := r_aload_n (j := 1) (by decide +kernel) rfl
theorem kL_149 : Ok ML 149 (oLA 0 150) := r_aload_n (j := 0) (by decide +kernel) rfl
theorem kL_150 : Ok ML 150 (oLI 3 151) := r_iload_n (j := 3) (by decide +kernel) rfl
theorem kL_151 : Ok ML 151 (oS (gKo (.int 1)) 152) := r_iconst (n := 1) (by decide +kernel) (by decide +kernel)
theorem kL_152 : Ok ML 152 (oS (gI2 f_iadd) 153) := r_iadd (by decide +kernel)
theorem kL_154 : Ok ML 154 (oCV 4 63 1) := r_callV (idx := 13) (by decide +kernel) w_306 cv_63
theorem kL_157 : Ok ML 157 (oPo 158) := r_pop (by decide +kernel)
theorem kL_158 : Ok ML 158 (oLA 2 159) := r_aload_n (j := 2) (by decide +kernel) rfl
theorem kL_159 : Ok ML 159 (oLA 0 160) := r_aload_n (j := 0) (by decide +kernel) rfl
theorem kL_160 : Ok ML 160 (oLI 3 161) := r_iload_n (j := 3) (by decide +kernel) rfl
theorem kL_161 : Ok ML 161 (oS (gKo (.int 1)) 162) := r_iconst (n := 1) (by decide +kernel) (by decide +kernel)
theorem kL_162 : Ok ML 162 (oS (gI2 f_iadd) 163) := r_iadd (by decide +kernel)
theorem kL_164 : Ok ML 164 (oCV 5 105 1) := r_callV (idx := 17) (by decide +kernel) w_739 cv_105
theorem kL_167 : Ok ML 167 (oPo 168) := r_pop (by decide +kernel)
theorem kL_168 : Ok ML 168 (oGo 773) := r_goto (off := 605) (by decide +kernel) (by decide +kernel)
theorem kL_171 : Ok ML 171 (oLA 1 172) := r_aload_n (j := 1) (by decide +kernel) rfl
theorem kL_172 : Ok ML 172 (oCV 4 64 0) := r_callV (idx := 18) (by decide +kernel) w_322 cv_64
theorem kL_175 : Ok ML 175 (oLA 2 176) := r_aload_n (j := 2) (by decide +kernel) rfl
theorem kL_176 : Ok ML 176 (oCV 5 106 0) := r_callV (idx := 22) (by decide +kernel) w_751 cv_106
theorem kL_179 : Ok ML 179 (oB2 b_icmp_eq q_eq 773 182) := r_icmp_eq (off := 594) (by decide +kernel) (by decide +kernel)
theorem kL_182 : Ok ML 182 (oS (gKo (.int 0)) 183) := r_iconst (n := 0) (by decide +kernel) (by decide +kernel)
theorem kL_184 : Ok ML 184 (oLA 1 185) := r_aload_n (j := 1) (by decide +kernel) rfl
theorem kL_185 : Ok ML 185 (oCV 4 65 0) := r_callV (idx := 23) (by decide +kernel) w_330 cv_65
theorem kL_188 : Ok ML 188 (oPo 189) := r_pop (by decide +kernel)
theorem kL_189 : Ok ML 189 (oLA 2 190) := r_aload_n (j := 2) (by decide +kernel) rfl
theorem kL_190 : Ok ML 190 (oCV 5 119 0) := r_callV (idx := 26) (by decide +kernel) w_755 cv_119
theorem kL_193 : Ok ML 193 (oPo 194) := r_pop (by decide +kernel)
theorem kL_194 : Ok ML 194 (oGo 773) := r_goto (off := 579) (by decide +kernel) (by decide +kernel)
theorem kL_197 : Ok ML 197 (oLA 1 198) := r_aload_n (j := 1) (by decide +kernel) rfl
theorem kL_198 : Ok ML 198 (oLA 0 199) := r_aload_n (j := 0) (by decide +kernel) rfl
theorem kL_199 : Ok ML 199 (oLI 3 200) := r_iload_n (j := 3) (by decide +kernel) rfl
theorem kL_200 : Ok ML 200 (oS (gKo (.int 1)) 201) := r_iconst (n := 1) (by decide +kernel) (by decide +kernel)
theorem kL_201 : Ok ML 201 (oS (gI2 f_iadd) 202) := r_iadd (by decide +kernel)
theorem kL_203 : Ok ML 203 (oCV 4 66 1) := r_callV (idx := 27) (by decide +kernel) w_420 cv_66
theorem kL_206 : Ok ML 206 (oPo 207) := r_pop (by decide +kernel)
theorem kL_207 : Ok ML 207 (oLA 2 208) := r_aload_n (j := 2) (by decide +kernel) rfl
theorem kL_208 : Ok ML 208 (oLA 0 209) := r_aload_n (j := 0) (by decide +kernel) rfl
theorem kL_209 : Ok ML 209 (oLI 3 210) := r_iload_n (j := 3) (by decide +kernel) rfl
theorem kL_210 : Ok ML 210 (oS (gKo (.int 1)) 211) := r_iconst (n := 1) (by decide +kernel) (by decide +kernel)
theorem kL_211 : Ok ML 211 (oS (gI2 f_iadd) 212) := r_iadd (by decide +kernel)
theorem kL_213 : Ok ML 213 (oCV 5 121 1) := r_callV (idx := 30) (by decide +kernel) w_827 cv_121
theorem kL_216 : Ok ML 216 (oPo 217) := r_pop (by decide +kernel)
theorem kL_217 : Ok ML 217 (oGo 773) := r_goto (off := 556) (by decide +kernel) (by decide +kernel)
theorem kL_220 : Ok ML 220 (oLA 1 221) := r_aload_n (j := 1) (by decide +kernel) rfl
theorem kL_221 : Ok ML 221 (oLA 0 222) := r_aload_n (j := 0) (by decide +kernel) rfl
theorem kL_222 : Ok ML 222 (oLI 3 223) := r_iload_n (j := 3) (by decide +kernel) rfl
theorem kL_223 : Ok ML 223 (oS (gKo (.int 1)) 224) := r_iconst (n := 1) (by decide +kernel) (by decide +kernel)
theorem kL_224 : Ok ML 224 (oS (gI2 f_iadd) 225) := r_iadd (by decide +kernel)
theorem kL_226 : Ok ML 226 (oLA 0 227) := r_aload_n (j := 0) (by decide +kernel) rfl
theorem kL_227 : Ok ML 227 (oLI 3 228) := r_iload_n (j := 3) (by decide +kernel) rfl
theorem kL_228 : Ok ML 228 (oS (gKo (.int 2)) 229) := r_iconst (n := 2) (by decide +kernel) (by decide +kernel)
theorem kL_229 : Ok ML 229 (oS (gI2 f_iadd) 230) := r_iadd (by decide +kernel)
theorem kL_231 : Ok ML 231 (oCV 4 67 2) := r_callV (idx := 31) (by decide +kernel) w_424 cv_67
theorem kL_234 : Ok ML 234 (oPo 235) := r_pop (by decide +kernel)
theorem kL_235 : Ok ML 235 (oLA 2 236) := r_aload_n (j := 2) (by decide +kernel) rfl
theorem kL_236 : Ok ML 236 (oLA 0 237) := r_aload_n (j := 0) (by decide +kernel) rfl
theorem kL_237 : Ok ML 237 (oLI 3 238) := r_iload_n (j := 3) (by decide +kernel) rfl
theorem kL_238 : Ok ML 238 (oS (gKo (.int 1)) 239) := r_iconst (n := 1) (by decide +kernel) (by decide +kernel)
theorem kL_239 : Ok ML 239 (oS (gI2 f_iadd) 240) := r_iadd (by decide +kernel)
theorem kL_241 : Ok ML 241 (oLA 0 242) := r_aload_n (j := 0) (by decide +kernel) rfl
theorem kL_242 : Ok ML 242 (oLI 3 243) := r_iload_n (j := 3) (by decide +kernel) rfl
theorem kL_243 : Ok ML 243 (oS (gKo (.int 2)) 244) := r_iconst (n := 2) (by decide +kernel) (by decide +kernel)
theorem kL_244 : Ok ML 244 (oS (gI2 f_iadd) 245) := r_iadd (by decide +kernel)
theorem kL_246 : Ok ML 246 (oCV 5 132 2) := r_callV (idx := 35) (by decide +kernel) w_856 cv_132
theorem kL_249 : Ok ML 249 (oPo 250) := r_pop (by decide +kernel)
theorem kL_250 : Ok ML 250 (oGo 773) := r_goto (off := 523) (by decide +kernel) (by decide +kernel)
theorem kL_253 : Ok ML 253 (oLA 1 254) := r_aload_n (j := 1) (by decide +kernel) rfl
theorem kL_254 : Ok ML 254 (oLA 0 255) := r_aload_n (j := 0) (by decide +kernel) rfl
theorem kL_255 : Ok ML 255 (oLI 3 256) := r_iload_n (j := 3) (by decide +kernel) rfl
theorem kL_256 : Ok ML 256 (oS (gKo (.int 1)) 257) := r_iconst (n := 1) (by decide +kernel) (by decide +kernel)
theorem kL_257 : Ok ML 257 (oS (gI2 f_iadd) 258) := r_iadd (by decide +kernel)
theorem kL_259 : Ok ML 259 (oLA 0 260) := r_aload_n (j := 0) (by decide +kernel) rfl
theorem kL_260 : Ok ML 260 (oLI 3 261) := r_iload_n (j := 3) (by decide +kernel) rfl
theorem kL_261 : Ok ML 261 (oS (gKo (.int 2)) 262) := r_iconst (n := 2) (by decide +kernel) (by decide +kernel)
theorem kL_262 : Ok ML 262 (oS (gI2 f_iadd) 263) := r_iadd (by decide +kernel)
theorem kL_264 : Ok ML 264 (oCV 4 68 2) := r_callV (idx := 36) (by decide +kernel) w_433 cv_68
theorem kL_267 : Ok ML 267 (oPo 268) := r_pop (by decide +kernel)
theorem kL_268 : Ok ML 268 (oLA 2 269) := r_aload_n (j := 2) (by decide +kernel) rfl
theorem kL_269 : Ok ML 269 (oLA 0 270) := r_aload_n (j := 0) (by decide +kernel) rfl
theorem kL_270 : Ok ML 270 (oLI 3 271) := r_iload_n (j := 3) (by decide +kernel) rfl
theorem kL_271 : Ok ML 271 (oS (gKo (.int 1)) 272) := r_iconst (n := 1) (by decide +kernel) (by decide +kernel)
theorem kL_272 : Ok ML 272 (oS (gI2 f_iadd) 273) := r_iadd (by decide +kernel)
theorem kL_274 : Ok ML 274 (oLA 0 275) := r_aload_n (j := 0) (by decide +kernel) rfl
theorem kL_275 : Ok ML 275 (oLI 3 276) := r_iload_n (j := 3) (by decide +kernel) rfl
theorem kL_276 : Ok ML 276 (oS (gKo (.int 2)) 277) := r_iconst (n := 2) (by decide +kernel) (by decide +kernel)
theorem kL_277 : Ok ML 277 (oS (gI2 f_iadd) 278) := r_iadd (by decide +kernel)
theorem kL_279 : Ok ML 279 (oCV 5 134 2) := r_callV (idx := 39) (by decide +kernel) w_868 cv_134
theorem kL_282 : Ok ML 282 (oPo 283) := r_pop (by decide +kernel)
theorem kL_283 : Ok ML 283 (oGo 773) := r_goto (off := 490) (by decide +kernel) (by decide +kernel)
theorem kL_286 : Ok ML 286 (oLA 1 287) := r_aload_n (j := 1) (by decide +kernel) rfl
theorem kL_287 : Ok ML 287 (oLA 0 288) := r_aload_n (j := 0) (by decide +kernel) rfl
theorem kL_288 : Ok ML 288 (oLI 3 289) := r_iload_n (j := 3) (by decide +kernel) rfl
theorem kL_289 : Ok ML 289 (oS (gKo (.int 1)) 290) := r_iconst (n := 1) (by decide +kernel) (by decide +kernel)
theorem kL_290 : Ok ML 290 (oS (gI2 f_iadd) 291) := r_iadd (by decide +kernel)
theorem kL_292 : Ok ML 292 (oLA 0 293) := r_aload_n (j := 0) (by decide +kernel) rfl
theorem kL_293 : Ok ML 293 (oLI 3 294) := r_iload_n (j := 3) (by decide +kernel) rfl
theorem kL_294 : Ok ML 294 (oS (gKo (.int 2)) 295) := r_iconst (n := 2) (by decide +kernel) (by decide +kernel)
theorem kL_295 : Ok ML 295 (oS (gI2 f_iadd) 296) := r_iadd (by decide +kernel)
theorem kL_297 : Ok ML 297 (oCV 4 69 2) := r_callV (idx := 40) (by decide +kernel) w_461 cv_69
theorem kL_300 : Ok ML 300 (oPo 301) := r_pop (by decide +kernel)
theorem kL_301 : Ok ML 301 (oLA 2 302) := r_aload_n (j := 2) (by decide +kernel) rfl
theorem kL_302 : Ok ML 302 (oLA 0 303) := r_aload_n (j := 0) (by decide +kernel) rfl
theorem kL_303 : Ok ML 303 (oLI 3 304) := r_iload_n (j := 3) (by decide +kernel) rfl
theorem kL_304 : Ok ML 304 (oS (gKo (.int 1)) 305) := r_iconst (n := 1) (by decide +kernel) (by decide +kernel)
theorem kL_305 : Ok ML 305 (oS (gI2 f_iadd) 306) := r_iadd (by decide +kernel)
theorem kL_307 : Ok ML 307 (oLA 0 308) := r_aload_n (j := 0) (by decide +kernel) rfl
theorem kL_308 : Ok ML 308 (oLI 3 309) := r_iload_n (j := 3) (by decide +kernel) rfl
theorem kL_309 : Ok ML 309 (oS (gKo (.int 2)) 310) := r_iconst (n := 2) (by decide +kernel) (by decide +kernel)
theorem kL_310 : Ok ML 310 (oS (gI2 f_iadd) 311) := r_iadd (by decide +kernel)
theorem kL_312 : Ok ML 312 (oCV 5 135 2) := r_callV (idx := 43) (by decide +kernel) w_897 cv_135
theorem kL_315 : Ok ML 315 (oPo 316) := r_pop (by decide +kernel)
theorem kL_316 : Ok ML 316 (oGo 773) := r_goto (off := 457) (by decide +kernel) (by decide +kernel)
theorem kL_319 : Ok ML 319 (oLA 1 320) := r_aload_n (j := 1) (by decide +kernel) rfl
theorem kL_320 : Ok ML 320 (oLA 0 321) := r_aload_n (j := 0) (by decide +kernel) rfl
theorem kL_321 : Ok ML 321 (oLI 3 322) := r_iload_n (j := 3) (by decide +kernel) rfl
theorem kL_322 : Ok ML 322 (oS (gKo (.int 1)) 323) := r_iconst (n := 1) (by decide +kernel) (by decide +kernel)
theorem kL_323 : Ok ML 323 (oS (gI2 f_iadd) 324) := r_iadd (by decide +kernel)
theorem kL_325 : Ok ML 325 (oCV 4 70 1) := r_callV (idx := 44) (by decide +kernel) w_466 cv_70
theorem kL_328 : Ok ML 328 (oPo 329) := r_pop (by decide +kernel)
theorem kL_329 : Ok ML 329 (oLA 2 330) := r_aload_n (j := 2) (by decide +kernel) rfl
theorem kL_330 : Ok ML 330 (oLA 0 331) := r_aload_n (j := 0) (by decide +kernel) rfl
theorem kL_331 : Ok ML 331 (oLI 3 332) := r_iload_n (j := 3) (by decide +kernel) rfl
theorem kL_332 : Ok ML 332 (oS (gKo (.int 1)) 333) := r_iconst (n := 1) (by decide +kernel) (by decide +kernel)
theorem kL_333 : Ok ML 333 (oS (gI2 f_iadd) 334) := r_iadd (by decide +kernel)
theorem kL_335 : Ok ML 335 (oCV 5 127 1) := r_callV (idx := 47) (by decide +kernel) w_832 cv_127
theorem kL_338 : Ok ML 338 (oPo 339) := r_pop (by decide +kernel)
theorem kL_339 : Ok ML 339 (oGo 773) := r_goto (off := 434) (by decide +kernel) (by decide +kernel)
theorem kL_342 : Ok ML 342 (oLA 1 343) := r_aload_n (j := 1) (by decide +kernel) rfl
theorem kL_343 : Ok ML 343 (oLA 0 344) := r_aload_n (j := 0) (by decide +kernel) rfl
theorem kL_344 : Ok ML 344 (oLI 3 345) := r_iload_n (j := 3) (by decide +kernel) rfl
theorem kL_345 : Ok ML 345 (oS (gKo (.int 1)) 346) := r_iconst (n := 1) (by decide +kernel) (by decide +kernel)
theorem kL_346 : Ok ML 346 (oS (gI2 f_iadd) 347) := r_iadd (by decide +kernel)
theorem kL_348 : Ok ML 348 (oLA 0 349) := r_aload_n (j := 0) (by decide +kernel) rfl
theorem kL_349 : Ok ML 349 (oLI 3 350) := r_iload_n (j := 3) (by decide +kernel) rfl
theorem kL_350 : Ok ML 350 (oS (gKo (.int 2)) 351) := r_iconst (n := 2) (by decide +kernel) (by decide +kernel)
theorem kL_351 : Ok ML 351 (oS (gI2 f_iadd) 352) := r_iadd (by decide +kernel)
theorem kL_353 : Ok ML 353 (oLA 0 354) := r_aload_n (j := 0) (by decide +kernel) rfl
theorem kL_354 : Ok ML 354 (oLI 3 355) := r_iload_n (j := 3) (by decide +kernel) rfl
theorem kL_355 : Ok ML 355 (oS (gKo (.int 3)) 356) := r_iconst (n := 3) (by decide +kernel) (by decide +kernel)
theorem kL_356 : Ok ML 356 (oS (gI2 f_iadd) 357) := r_iadd (by decide +kernel)
theorem kL_358 : Ok ML 358 (oCV 4 71 3) := r_callV (idx := 48) (by decide +kernel) w_471 cv_71
theorem kL_361 : Ok ML 361 (oPo 362) := r_pop (by decide +kernel)
theorem kL_362 : Ok ML 362 (oLA 2 363) := r_aload_n (j := 2) (by decide +kernel) rfl
theorem kL_363 : Ok ML 363 (oLA 0 364) := r_aload_n (j := 0) (by decide +kernel) rfl
theorem kL_364 : Ok ML 364 (oLI 3 365) := r_iload_n (j := 3) (by decide +kernel) rfl
theorem kL_365 : Ok ML 365 (oS (gKo (.int 1)) 366) := r_iconst (n := 1) (by decide +kernel) (by decide +kernel)
theorem kL_366 : Ok ML 366 (oS (gI2 f_iadd) 367) := r_iadd (by decide +kernel)
theorem kL_368 : Ok ML 368 (oLA 0 369) := r_aload_n (j := 0) (by decide +kernel) rfl
theorem kL_369 : Ok ML 369 (oLI 3 370) := r_iload_n (j := 3) (by decide +kernel) rfl
theorem kL_370 : Ok ML 370 (oS (gKo (.int 2)) 371) := r_iconst (n := 2) (by decide +kernel) (by decide +kernel)
theorem kL_371 : Ok ML 371 (oS (gI2 f_iadd) 372) := r_iadd (by decide +kernel)
theorem kL_373 : Ok ML 373 (oLA 0 374) := r_aload_n (j := 0) (by decide +kernel) rfl
theorem kL_374 : Ok ML 374 (oLI 3 375) := r_iload_n (j := 3) (by decide +kernel) rfl
theorem kL_375 : Ok ML 375 (oS (gKo (.int 3)) 376) := r_iconst (n := 3) (by decide +kernel) (by decide +kernel)
theorem kL_376 : Ok ML 376 (oS (gI2 f_iadd) 377) := r_iadd (by decide +kernel)
theorem kL_378 : Ok ML 378 (oCV 5 136 3) := r_callV (idx := 52) (by decide +kernel) w_901 cv_136
theorem kL_381 : Ok ML 381 (oPo 382) := r_pop (by decide +kernel)
theorem kL_382 : Ok ML 382 (oGo 773) := r_goto (off := 391) (by decide +kernel) (by decide +kernel)
theorem kL_385 : Ok ML 385 (oLA 1 386) := r_aload_n (j := 1) (by decide +kernel) rfl
theorem kL_386 : Ok ML 386 (oLA 0 387) := r_aload_n (j := 0) (by decide +kernel) rfl
theorem kL_387 : Ok ML 387 (oLI 3 388) := r_iload_n (j := 3) (by decide +kernel) rfl
theorem kL_388 : Ok ML 388 (oS (gKo (.int 1)) 389) := r_iconst (n := 1) (by decide +kernel) (by decide +kernel)
theorem kL_389 : Ok ML 389 (oS (gI2 f_iadd) 390) := r_iadd (by decide +kernel)
theorem kL_391 : Ok ML 391 (oLA 0 392) := r_aload_n (j := 0) (by decide +kernel) rfl
theorem kL_392 : Ok ML 392 (oLI 3 393) := r_iload_n (j := 3) (by decide +kernel) rfl
theorem kL_393 : Ok ML 393 (oS (gKo (.int 2)) 394) := r_iconst (n := 2) (by decide +kernel) (by decide +kernel)
theorem kL_394 : Ok ML 394 (oS (gI2 f_iadd) 395) := r_iadd (by decide +kernel)
theorem kL_396 : Ok ML 396 (oCV 4 72 2) := r_callV (idx := 53) (by decide +kernel) w_480 cv_72
theorem kL_399 : Ok ML 399 (oPo 400) := r_pop (by decide +kernel)
theorem kL_400 : Ok ML 400 (oLA 2 401) := r_aload_n (j := 2) (by decide +kernel) rfl
theorem kL_401 : Ok ML 401 (oLA 0 402) := r_aload_n (j := 0) (by decide +kernel) rfl
theorem kL_402 : Ok ML 402 (oLI 3 403) := r_iload_n (j := 3) (by decide +kernel) rfl
theorem kL_403 : Ok ML 403 (oS (gKo (.int 1)) 404) := r_iconst (n := 1) (by decide +kernel) (by decide +kernel)
theorem kL_404 : Ok ML 404 (oS (gI2 f_iadd) 405) := r_iadd (by decide +kernel)
theorem kL_406 : Ok ML 406 (oLA 0 407) := r_aload_n (j := 0) (by decide +kernel) rfl
theorem kL_407 : Ok ML 407 (oLI 3 408) := r_iload_n (j := 3) (by decide +kernel) rfl
theorem kL_408 : Ok ML 408 (oS (gKo (.int 2)) 409) := r_iconst (n := 2) (by decide +kernel) (by decide +kernel)
theorem kL_409 : Ok ML 409 (oS (gI2 f_iadd) 410) := r_iadd (by decide +kernel)
theorem kL_411 : Ok ML 411 (oCV 5 137 2) := r_callV (idx := 56) (by decide +kernel) w_906 cv_137
theorem kL_414 : Ok ML 414 (oPo 415) := r_pop (by decide +kernel)
theorem kL_415 : Ok ML 415 (oGo 773) := r_goto (off := 358) (by decide +kernel) (by decide +kernel)
theorem kL_418 : Ok ML 418 (oLA 1 419) := r_aload_n (j := 1) (by decide +kernel) rfl
theorem kL_419 : Ok ML 419 (oLA 0 420) := r_aload_n (j := 0) (by decide +kernel) rfl
theorem kL_420 : Ok ML 420 (oLI 3 421) := r_iload_n (j := 3) (by decide +kernel) rfl
theorem kL_421 : Ok ML 421 (oS (gKo (.int 1)) 422) := r_iconst (n := 1) (by decide +kernel) (by decide +kernel)
theorem kL_422 : Ok ML 422 (oS (gI2 f_iadd) 423) := r_iadd (by decide +kernel)
theorem kL_424 : Ok ML 424 (oCV 4 73 1) := r_callV (idx := 57) (by decide +kernel) w_484 cv_73
theorem kL_427 : Ok ML 427 (oPo 428) := r_pop (by decide +kernel)
theorem kL_428 : Ok ML 428 (oLA 2 429) := r_aload_n (j := 2) (by decide +kernel) rfl
theorem kL_429 : Ok ML 429 (oLA 0 430) := r_aload_n (j := 0) (by decide +kernel) rfl
theorem kL_430 : Ok ML 430 (oLI 3 431) := r_iload_n (j := 3) (by decide +kernel) rfl
theorem kL_431 : Ok ML 431 (oS (gKo (.int 1)) 432) := r_iconst (n := 1) (by decide +kernel) (by decide +kernel)
theorem kL_432 : Ok ML 432 (oS (gI2 f_iadd) 433) := r_iadd (by decide +kernel)
theorem kL_434 : Ok ML 434 (oCV 5 138 1) := r_callV (idx := 60) (by decide +kernel) w_911 cv_138
theorem kL_437 : Ok ML 437 (oPo 438) := r_pop (by decide +kernel)
theorem kL_438 : Ok ML 438 (oGo 773) := r_goto (off := 335) (by decide +kernel) (by decide +kernel)
theorem kL_441 : Ok ML 441 (oLA 1 442) := r_aload_n (j := 1) (by decide +kernel) rfl
theorem kL_442 : Ok ML 442 (oLA 0 443) := r_aload_n (j := 0) (by decide +kernel) rfl
theorem kL_443 : Ok ML 443 (oLI 3 444) := r_iload_n (j := 3) (by decide +kernel) rfl
theorem kL_444 : Ok ML 444 (oS (gKo (.int 1)) 445) := r_iconst (n := 1) (by decide +kernel) (by decide +kernel)
theorem kL_445 : Ok ML 445 (oS (gI2 f_iadd) 446) := r_iadd (by decide +kernel)
theorem kL_447 : Ok ML 447 (oLA 0 448) := r_aload_n (j := 0) (by decide +kernel) rfl
theorem kL_448 : Ok ML 448 (oLI 3 449) := r_iload_n (j := 3) (by decide +kernel) rfl
theorem kL_449 : Ok ML 449 (oS (gKo (.int 2)) 450) := r_iconst (n := 2) (by decide +kernel) (by decide +kernel)
theorem kL_450 : Ok ML 450 (oS (gI2 f_iadd) 451) := r_iadd (by decide +kernel)
theorem kL_452 : Ok ML 452 (oCV 4 74 2) := r_callV (idx := 61) (by decide +kernel) w_488 cv_74
theorem kL_455 : Ok ML 455 (oPo 456) := r_pop (by decide +kernel)
theorem kL_456 : Ok ML 456 (oLA 2 457) := r_aload_n (j := 2) (by decide +kernel) rfl
theorem kL_457 : Ok ML 457 (oLA 0 458) := r_aload_n (j := 0) (by decide +kernel) rfl
theorem kL_458 : Ok ML 458 (oLI 3 459) := r_iload_n (j := 3) (by decide +kernel) rfl
theorem kL_459 : Ok ML 459 (oS (gKo (.int 1)) 460) := r_iconst (n := 1) (by decide +kernel) (by decide +kernel)
theorem kL_460 : Ok ML 460 (oS (gI2 f_iadd) 461) := r_iadd (by decide +kernel)
theorem kL_462 : Ok ML 462 (oLA 0 463) := r_aload_n (j := 0) (by decide +kernel) rfl
theorem kL_463 : Ok ML 463 (oLI 3 464) := r_iload_n (j := 3) (by decide +kernel) rfl
theorem kL_464 : Ok ML 464 (oS (gKo (.int 2)) 465) := r_iconst (n := 2) (by decide +kernel) (by decide +kernel)
theorem kL_465 : Ok ML 465 (oS (gI2 f_iadd) 466) := r_iadd (by decide +kernel)
theorem kL_467 : Ok ML 467 (oCV 5 140 2) := r_callV (idx := 64) (by decide +kernel) w_916 cv_140
theorem kL_470 : Ok ML 470 (oPo 471) := r_pop (by decide +kernel)
theorem kL_471 : Ok ML 471 (oGo 773) := r_goto (off := 302) (by decide +kernel) (by decide +kernel)
theorem kL_474 : Ok ML 474 (oLA 1 475) := r_aload_n (j := 1) (by decide +kernel) rfl
theorem kL_475 : Ok ML 475 (oLA 0 476) := r_aload_n (j := 0) (by decide +kernel) rfl
theorem kL_476 : Ok ML 476 (oLI 3 477) := r_iload_n (j := 3) (by decide +kernel) rfl
theorem kL_477 : Ok ML 477 (oS (gKo (.int 1)) 478) := r_iconst (n := 1) (by decide +kernel) (by decide +kernel)
theorem kL_478 : Ok ML 478 (oS (gI2 f_iadd) 479) := r_iadd (by decide +kernel)
theorem kL_480 : Ok ML 480 (oLA 0 481) := r_aload_n (j := 0) (by decide +kernel) rfl
theorem kL_481 : Ok ML 481 (oLI 3 482) := r_iload_n (j := 3) (by decide +kernel) rfl
theorem kL_482 : Ok ML 482 (oS (gKo (.int 2)) 483) := r_iconst (n := 2) (by decide +kernel) (by decide +kernel)
theorem kL_483 : Ok ML 483 (oS (gI2 f_iadd) 484) := r_iadd (by decide +kernel)
theorem kL_485 : Ok ML 485 (oCV 4 75 2) := r_callV (idx := 65) (by decide +kernel) w_502 cv_75
theorem kL_488 : Ok ML 488 (oPo 489) := r_pop (by decide +kernel)
theorem kL_489 : Ok ML 489 (oLA 2 490) := r_aload_n (j := 2) (by decide +kernel) rfl
theorem kL_490 : Ok ML 490 (oLA 0 491) := r_aload_n (j := 0) (by decide +kernel) rfl
theorem kL_491 : Ok ML 491 (oLI 3 492) := r_iload_n (j := 3) (by decide +kernel) rfl
theorem kL_492 : Ok ML 492 (oS (gKo (.int 1)) 493) := r_iconst (n := 1) (by decide +kernel) (by decide +kernel)
theorem kL_493 : Ok ML 493 (oS (gI2 f_iadd) 494) := r_iadd (by decide +kernel)
theorem kL_495 : Ok ML 495 (oLA 0 496) := r_aload_n (j := 0) (by decide +kernel) rfl
theorem kL_496 : Ok ML 496 (oLI 3 497) := r_iload_n (j := 3) (by decide +kernel) rfl
theorem kL_497 : Ok ML 497 (oS (gKo (.int 2)) 498) := r_iconst (n := 2) (by decide +kernel) (by decide +kernel)
theorem kL_498 : Ok ML 498 (oS (gI2 f_iadd) 499) := r_iadd (by decide +kernel)
theorem kL_500 : Ok ML 500 (oCV 5 141 2) := r_callV (idx := 68) (by decide +kernel) w_923 cv_141
theorem kL_503 : Ok ML 503 (oPo 504) := r_pop (by decide +kernel)
theorem kL_504 : Ok ML 504 (oGo 773) := r_goto (off := 269) (by decide +kernel) (by decide +kernel)
theorem kL_507 : Ok ML 507 (oLA 1 508) := r_aload_n (j := 1) (by decide +kernel) rfl
theorem kL_508 : Ok ML 508 (oLA 0 509) := r_aload_n (j := 0) (by decide +kernel) rfl
theorem kL_509 : Ok ML 509 (oLI 3 510) := r_iload_n (j := 3) (by decide +kernel) rfl
theorem kL_510 : Ok ML 510 (oS (gKo (.int 1)) 511) := r_iconst (n := 1) (by decide +kernel) (by decide +kernel)
theorem kL_511 : Ok ML 511 (oS (gI2 f_iadd) 512) := r_iadd (by decide +kernel)
theorem kL_513 : Ok ML 513 (oCV 4 76 1) := r_callV (idx := 69) (by decide +kernel) w_518 cv_76
theorem kL_516 : Ok ML 516 (oPo 517) := r_pop (by decide +kernel)
theorem kL_517 : Ok ML 517 (oLA 2 518) := r_aload_n (j := 2) (by decide +kernel) rfl
theorem kL_518 : Ok ML 518 (oLA 0 519) := r_aload_n (j := 0) (by decide +kernel) rfl
theorem kL_519 : Ok ML 519 (oLI 3 520) := r_iload_n (j := 3) (by decide +kernel) rfl
theorem kL_520 : Ok ML 520 (oS (gKo (.int 1)) 521) := r_iconst (n := 1) (by decide +kernel) (by decide +kernel)
theorem kL_521 : Ok ML 521 (oS (gI2 f_iadd) 522) := r_iadd (by decide +kernel)
theorem kL_523 : Ok ML 523 (oCV 5 144 1) := r_callV (idx := 72) (by decide +kernel) w_927 cv_144
theorem kL_526 : Ok ML 526 (oPo 527) := r_pop (by decide +kernel)
theorem kL_527 : Ok ML 527 (oGo 773) := r_goto (off := 246) (by decide +kernel) (by decide +kernel)
theorem kL_530 : Ok ML 530 (oLA 1 531) := r_aload_n (j := 1) (by decide +kernel) rfl
theorem kL_531 : Ok ML 531 (oLA 0 532) := r_aload_n (j := 0) (by decide +kernel) rfl
theorem kL_532 : Ok ML 532 (oLI 3 533) := r_iload_n (j := 3) (by decide +kernel) rfl
theorem kL_533 : Ok ML 533 (oS (gKo (.int 1)) 534) := r_iconst (n := 1) (by decide +kernel) (by decide +kernel)
theorem kL_534 : Ok ML 534 (oS (gI2 f_iadd) 535) := r_iadd (by decide +kernel)
theorem kL_536 : Ok ML 536 (oCV 4 77 1) := r_callV (idx := 73) (by decide +kernel) w_530 cv_77
theorem kL_539 : Ok ML 539 (oPo 540) := r_pop (by decide +kernel)
theorem kL_540 : Ok ML 540 (oLA 2 541) := r_aload_n (j := 2) (by decide +kernel) rfl
theorem kL_541 : Ok ML 541 (oLA 0 542) := r_aload_n (j := 0) (by decide +kernel) rfl
theorem kL_542 : Ok ML 542 (oLI 3 543) := r_iload_n (j := 3) (by decide +kernel) rfl
theorem kL_543 : Ok ML 543 (oS (gKo (.int 1)) 544) := r_iconst (n := 1) (by decide +kernel) (by decide +kernel)
theorem kL_544 : Ok ML 544 (oS (gI2 f_iadd) 545) := r_iadd (by decide +kernel)
theorem kL_546 : Ok ML 546 (oCV 5 146 1) := r_callV (idx := 76) (by decide +kernel) w_939 cv_146
theorem kL_549 : Ok ML 549 (oPo 550) := r_pop (by decide +kernel)
theorem kL_550 : Ok ML 550 (oGo 773) := r_goto (off := 223) (by decide +kernel) (by decide +kernel)
theorem kL_553 : Ok ML 553 (oLA 1 554) := r_aload_n (j := 1) (by decide +kernel) rfl
theorem kL_554 : Ok ML 554 (oLA 0 555) := r_aload_n (j := 0) (by decide +kernel) rfl
theorem kL_555 : Ok ML 555 (oLI 3 556) := r_iload_n (j := 3) (by decide +kernel) rfl
theorem kL_556 : Ok ML 556 (oS (gKo (.int 1)) 557) := r_iconst (n := 1) (by decide +kernel) (by decide +kernel)
theorem kL_557 : Ok ML 557 (oS (gI2 f_iadd) 558) := r_iadd (by decide +kernel)
theorem kL_559 : Ok ML 559 (oCV 4 78 1) := r_callV (idx := 77) (by decide +kernel) w_547 cv_78
theorem kL_562 : Ok ML 562 (oPo 563) := r_pop (by decide +kernel)
theorem kL_563 : Ok ML 563 (oLA 2 564) := r_aload_n (j := 2) (by decide +kernel) rfl
theorem kL_564 : Ok ML 564 (oLA 0 565) := r_aload_n (j := 0) (by decide +kernel) rfl
theorem kL_565 : Ok ML 565 (oLI 3 566) := r_iload_n (j := 3) (by decide +kernel) rfl
theorem kL_566 : Ok ML 566 (oS (gKo (.int 1)) 567) := r_iconst (n := 1) (by decide +kernel) (by decide +kernel)
theorem kL_567 : Ok ML 567 (oS (gI2 f_iadd) 568) := r_iadd (by decide +kernel)
theorem kL_569 : Ok ML 569 (oCV 5 155 1) := r_callV (idx := 80) (by decide +kernel) w_947 cv_155
theorem kL_572 : Ok ML 572 (oPo 573) := r_pop (by decide +kernel)
theorem kL_573 : Ok ML 573 (oGo 773) := r_goto (off := 200) (by decide +kernel) (by decide +kernel)
theorem kL_576 : Ok ML 576 (oLA 1 577) := r_aload_n (j := 1) (by decide +kernel) rfl
theorem kL_577 : Ok ML 577 (oCV 4 79 0) := r_callV (idx := 81) (by decide +kernel) w_584 cv_79
theorem kL_580 : Ok ML 580 (oPo 581) := r_pop (by decide +kernel)
theorem kL_581 : Ok ML 581 (oLA 2 582) := r_aload_n (j := 2) (by decide +kernel) rfl
theorem kL_582 : Ok ML 582 (oCV 5 156 0) := r_callV (idx := 84) (by decide +kernel) w_985 cv_156
theorem kL_585 : Ok ML 585 (oPo 586) := r_pop (by decide +kernel)
theorem kL_586 : Ok ML 586 (oGo 773) := r_goto (off := 187) (by decide +kernel) (by decide +kernel)
theorem kL_589 : Ok ML 589 (oLA 1 590) := r_aload_n (j := 1) (by decide +kernel) rfl
theorem kL_590 : Ok ML 590 (oLA 0 591) := r_aload_n (j := 0) (by decide +kernel) rfl
theorem kL_591 : Ok ML 591 (oLI 3 592) := r_iload_n (j := 3) (by decide +kernel) rfl
theorem kL_592 : Ok ML 592 (oS (gKo (.int 1)) 593) := r_iconst (n := 1) (by decide +kernel) (by decide +kernel)
theorem kL_593 : Ok ML 593 (oS (gI2 f_iadd) 594) := r_iadd (by decide +kernel)
theorem kL_595 : Ok ML 595 (oCV 4 80 1) := r_callV (idx := 85) (by decide +kernel) w_596 cv_80
theorem kL_598 : Ok ML 598 (oPo 599) := r_pop (by decide +kernel)
theorem kL_599 : Ok ML 599 (oLA 2 600) := r_aload_n (j := 2) (by decide +kernel) rfl
theorem kL_600 : Ok ML 600 (oLA 0 601) := r_aload_n (j := 0) (by decide +kernel) rfl
theorem kL_601 : Ok ML 601 (oLI 3 602) := r_iload_n (j := 3) (by decide +kernel) rfl
theorem kL_602 : Ok ML 602 (oS (gKo (.int 1)) 603) := r_iconst (n := 1) (by decide +kernel) (by decide +kernel)
theorem kL_603 : Ok ML 603 (oS (gI2 f_iadd) 604) := r_iadd (by decide +kernel)
theorem kL_605 : Ok ML 605 (oCV 5 158 1) := r_callV (idx := 88) (by decide +kernel) w_989 cv_158
theorem kL_608 : Ok ML 608 (oPo 609) := r_pop (by decide +kernel)
theorem kL_609 : Ok ML 609 (oGo 773) := r_goto (off := 164) (by decide +kernel) (by decide +kernel)
theorem kL_612 : Ok ML 612 (oLA 1 613) := r_aload_n (j := 1) (by decide +kernel) rfl
theorem kL_613 : Ok ML 613 (oLA 0 614) := r_aload_n (j := 0) (by decide +kernel) rfl
theorem kL_614 : Ok ML 614 (oLI 3 615) := r_iload_n (j := 3) (by decide +kernel) rfl
theorem kL_615 : Ok ML 615 (oS (gKo (.int 1)) 616) := r_iconst (n := 1) (by decide +kernel) (by decide +kernel)
theorem kL_616 : Ok ML 616 (oS (gI2 f_iadd) 617) := r_iadd (by decide +kernel)
theorem kL_618 : Ok ML 618 (oLA 0 619) := r_aload_n (j := 0) (by decide +kernel) rfl
theorem kL_619 : Ok ML 619 (oLI 3 620) := r_iload_n (j := 3) (by decide +kernel) rfl
theorem kL_620 : Ok ML 620 (oS (gKo (.int 2)) 621) := r_iconst (n := 2) (by decide +kernel) (by decide +kernel)
theorem kL_621 : Ok ML 621 (oS (gI2 f_iadd) 622) := r_iadd (by decide +kernel)
theorem kL_623 : Ok ML 623 (oCV 4 81 2) := r_callV (idx := 89) (by decide +kernel) w_607 cv_81
theorem kL_626 : Ok ML 626 (oPo 627) := r_pop (by decide +kernel)
theorem kL_627 : Ok ML 627 (oLA 2 628) := r_aload_n (j := 2) (by decide +kernel) rfl
theorem kL_628 : Ok ML 628 (oLA 0 629) := r_aload_n (j := 0) (by decide +kernel) rfl
theorem kL_629 : Ok ML 629 (oLI 3 630) := r_iload_n (j := 3) (by decide +kernel) rfl
theorem kL_630 : Ok ML 630 (oS (gKo (.int 1)) 631) := r_iconst (n := 1) (by decide +kernel) (by decide +kernel)
theorem kL_631 : Ok ML 631 (oS (gI2 f_iadd) 632) := r_iadd (by decide +kernel)
theorem kL_633 : Ok ML 633 (oLA 0 634) := r_aload_n (j := 0) (by decide +kernel) rfl
theorem kL_634 : Ok ML 634 (oLI 3 635) := r_iload_n (j := 3) (by decide +kernel) rfl
theorem kL_635 : Ok ML 635 (oS (gKo (.int 2)) 636) := r_iconst (n := 2) (by decide +kernel) (by decide +kernel)
theorem kL_636 : Ok ML 636 (oS (gI2 f_iadd) 637) := r_iadd (by decide +kernel)
theorem kL_638 : Ok ML 638 (oCV 5 159 2) := r_callV (idx := 92) (by decide +kernel) w_997 cv_159
theorem kL_641 : Ok ML 641 (oPo 642) := r_pop (by decide +kernel)
theorem kL_642 : Ok ML 642 (oGo 773) := r_goto (off := 131) (by decide +kernel) (by decide +kernel)
theorem kL_645 : Ok ML 645 (oLA 1 646) := r_aload_n (j := 1) (by decide +kernel) rfl
theorem kL_646 : Ok ML 646 (oLA 0 647) := r_aload_n (j := 0) (by decide +kernel) rfl
theorem kL_647 : Ok ML 647 (oLI 3 648) := r_iload_n (j := 3) (by decide +kernel) rfl
theorem kL_648 : Ok ML 648 (oS (gKo (.int 1)) 649) := r_iconst (n := 1) (by decide +kernel) (by decide +kernel)
theorem kL_649 : Ok ML 649 (oS (gI2 f_iadd) 650) := r_iadd (by decide +kernel)
theorem kL_651 : Ok ML 651 (oCV 4 82 1) := r_callV (idx := 93) (by decide +kernel) w_615 cv_82
theorem kL_654 : Ok ML 654 (oPo 655) := r_pop (by decide +kernel)
theorem kL_655 : Ok ML 655 (oLA 2 656) := r_aload_n (j := 2) (by decide +kernel) rfl
theorem kL_656 : Ok ML 656 (oLA 0 657) := r_aload_n (j := 0) (by decide +kernel) rfl
theorem kL_657 : Ok ML 657 (oLI 3 658) := r_iload_n (j := 3) (by decide +kernel) rfl
theorem kL_658 : Ok ML 658 (oS (gKo (.int 1)) 659) := r_iconst (n := 1) (by decide +kernel) (by decide +kernel)
theorem kL_659 : Ok ML 659 (oS (gI2 f_iadd) 660) := r_iadd (by decide +kernel)
theorem kL_661 : Ok ML 661 (oCV 5 160 1) := r_callV (idx := 96) (by decide +kernel) w_1001 cv_160
theorem kL_664 : Ok ML 664 (oPo 665) := r_pop (by decide +kernel)
theorem kL_665 : Ok ML 665 (oGo 773) := r_goto (off := 108) (by decide +kernel) (by decide +kernel)
theorem kL_668 : Ok ML 668 (oLA 1 669) := r_aload_n (j := 1) (by decide +kernel) rfl
theorem kL_669 : Ok ML 669 (oLA 0 670) := r_aload_n (j := 0) (by decide +kernel) rfl
theorem kL_670 : Ok ML 670 (oLI 3 671) := r_iload_n (j := 3) (by decide +kernel) rfl
theorem kL_671 : Ok ML 671 (oS (gKo (.int 1)) 672) := r_iconst (n := 1) (by decide +kernel) (by decide +kernel)
theorem kL_672 : Ok ML 672 (oS (gI2 f_iadd) 673) := r_iadd (by decide +kernel)
theorem kL_674 : Ok ML 674 (oCV 4 83 1) := r_callV (idx := 97) (by decide +kernel) w_623 cv_83
theorem kL_677 : Ok ML 677 (oPo 678) := r_pop (by decide +kernel)
theorem kL_678 : Ok ML 678 (oLA 2 679) := r_aload_n (j := 2) (by decide +kernel) rfl
theorem kL_679 : Ok ML 679 (oLA 0 680) := r_aload_n (j := 0) (by decide +kernel) rfl
theorem kL_680 : Ok ML 680 (oLI 3 681) := r_iload_n (j := 3) (by decide +kernel) rfl
theorem kL_681 : Ok ML 681 (oS (gKo (.int 1)) 682) := r_iconst (n := 1) (by decide +kernel) (by decide +kernel)
theorem kL_682 : Ok ML 682 (oS (gI2 f_iadd) 683) := r_iadd (by decide +kernel)
theorem kL_684 : Ok ML 684 (oCV 5 161 1) := r_callV (idx := 100) (by decide +kernel) w_1005 cv_161
theorem kL_687 : Ok ML 687 (oPo 688) := r_pop (by decide +kernel)
theorem kL_688 : Ok ML 688 (oGo 773) := r_goto (off := 85) (by decide +kernel) (by decide +kernel)
theorem kL_691 : Ok ML 691 (oLA 1 692) := r_aload_n (j := 1) (by decide +kernel) rfl
theorem kL_692 : Ok ML 692 (oLA 0 693) := r_aload_n (j := 0) (by decide +kernel) rfl
theorem kL_693 : Ok ML 693 (oLI 3 694) := r_iload_n (j := 3) (by decide +kernel) rfl
theorem kL_694 : Ok ML 694 (oS (gKo (.int 1)) 695) := r_iconst (n := 1) (by decide +kernel) (by decide +kernel)
theorem kL_695 : Ok ML 695 (oS (gI2 f_iadd) 696) := r_iadd (by decide +kernel)
theorem kL_697 : Ok ML 697 (oLA 0 698) := r_aload_n (j := 0) (by decide +kernel) rfl
theorem kL_698 : Ok ML 698 (oLI 3 699) := r_iload_n (j := 3) (by decide +kernel) rfl
theorem kL_699 : Ok ML 699 (oS (gKo (.int 2)) 700) := r_iconst (n := 2) (by decide +kernel) (by decide +kernel)
theorem kL_700 : Ok ML 700 (oS (gI2 f_iadd) 701) := r_iadd (by decide +kernel)
theorem kL_702 : Ok ML 702 (oCV 4 84 2) := r_callV (idx := 101) (by decide +kernel) w_636 cv_84
theorem kL_705 : Ok ML 705 (oPo 706) := r_pop (by decide +kernel)
theorem kL_706 : Ok ML 706 (oLA 2 707) := r_aload_n (j := 2) (by decide +kernel) rfl
theorem kL_707 : Ok ML 707 (oLA 0 708) := r_aload_n (j := 0) (by decide +kernel) rfl
theorem kL_708 : Ok ML 708 (oLI 3 709) := r_iload_n (j := 3) (by decide +kernel) rfl
theorem kL_709 : Ok ML 709 (oS (gKo (.int 1)) 710) := r_iconst (n := 1) (by decide +kernel) (by decide +kernel)
theorem kL_710 : Ok ML 710 (oS (gI2 f_iadd) 711) := r_iadd (by decide +kernel)
theorem kL_712 : Ok ML 712 (oLA 0 713) := r_aload_n (j := 0) (by decide +kernel) rfl
theorem kL_713 : Ok ML 713 (oLI 3 714) := r_iload_n (j := 3) (by decide +kernel) rfl
theorem kL_714 : Ok ML 714 (oS (gKo (.int 2)) 715) := r_iconst (n := 2) (by decide +kernel) (by decide +kernel)
theorem kL_715 : Ok ML 715 (oS (gI2 f_iadd) 716) := r_iadd (by decide +kernel)
theorem kL_717 : Ok ML 717 (oCV 5 163 2) := r_callV (idx := 104) (by decide +kernel) w_1013 cv_163
theorem kL_720 : Ok ML 720 (oPo 721) := r_pop (by decide +kernel)
theorem kL_721 : Ok ML 721 (oGo 773) := r_goto (off := 52) (by decide +kernel) (by decide +kernel)
theorem kL_724 : Ok ML 724 (oLA 1 725) := r_aload_n (j := 1) (by decide +kernel) rfl
theorem kL_725 : Ok ML 725 (oCV 4 85 0) := r_callV (idx := 105) (by decide +kernel) w_640 cv_85
theorem kL_728 : Ok ML 728 (oPo 729) := r_pop (by decide +kernel)
theorem kL_729 : Ok ML 729 (oLA 2 730) := r_aload_n (j := 2) (by decide +kernel) rfl
theorem kL_730 : Ok ML 730 (oCV 5 164 0) := r_callV (idx := 108) (by decide +kernel) w_1018 cv_164
theorem kL_733 : Ok ML 733 (oPo 734) := r_pop (by decide +kernel)
theorem kL_734 : Ok ML 734 (oGo 773) := r_goto (off := 39) (by decide +kernel) (by decide +kernel)
theorem kL_737 : Ok ML 737 (oLA 1 738) := r_aload_n (j := 1) (by decide +kernel) rfl
theorem kL_738 : Ok ML 738 (oLA 0 739) := r_aload_n (j := 0) (by decide +kernel) rfl
theorem kL_739 : Ok ML 739 (oLI 3 740) := r_iload_n (j := 3) (by decide +kernel) rfl
theorem kL_740 : Ok ML 740 (oS (gKo (.int 1)) 741) := r_iconst (n := 1) (by decide +kernel) (by decide +kernel)
theorem kL_741 : Ok ML 741 (oS (gI2 f_iadd) 742) := r_iadd (by decide +kernel)
theorem kL_743 : Ok ML 743 (oCV 4 86 1) := r_callV (idx := 109) (by decide +kernel) w_648 cv_86
theorem kL_746 : Ok ML 746 (oPo 747) := r_pop (by decide +kernel)
theorem kL_747 : Ok ML 747 (oLA 2 748) := r_aload_n (j := 2) (by decide +kernel) rfl
theorem kL_748 : Ok ML 748 (oLA 0 749) := r_aload_n (j := 0) (by decide +kernel) rfl
theorem kL_749 : Ok ML 749 (oLI 3 750) := r_iload_n (j := 3) (by decide +kernel) rfl
theorem kL_750 : Ok ML 750 (oS (gKo (.int 1)) 751) := r_iconst (n := 1) (by decide +kernel) (by decide +kernel)
theorem kL_751 : Ok ML 751 (oS (gI2 f_iadd) 752) := r_iadd (by decide +kernel)
theorem kL_753 : Ok ML 753 (oCV 5 166 1) := r_callV (idx := 112) (by decide +kernel) w_1022 cv_166
theorem kL_756 : Ok ML 756 (oPo 757) := r_pop (by decide +kernel)
theorem kL_757 : Ok ML 757 (oGo 773) := r_goto (off := 16) (by decide +kernel) (by decide +kernel)
theorem kL_760 : Ok ML 760 (oLA 1 761) := r_aload_n (j := 1) (by decide +kernel) rfl
theorem kL_761 : Ok ML 761 (oCV 4 87 0) := r_callV (idx := 113) (by decide +kernel) w_653 cv_87
theorem kL_764 : Ok ML 764 (oPp 765) := r_pop2 (by decide +kernel)
theorem kL_765 : Ok ML 765 (oLA 2 766) := r_aload_n (j := 2) (by decide +kernel) rfl
theorem kL_766 : Ok ML 766 (oCV 5 167 0) := r_callV (idx := 117) (by decide +kernel) w_1031 cv_167
theorem kL_769 : Ok ML 769 (oPp 770) := r_pop2 (by decide +kernel)
theorem kL_770 : Ok ML 770 (oGo 773) := r_goto (off := 3) (by decide +kernel) (by decide +kernel)
theorem kL_773 : Ok ML 773 (oInc 3 4 4 776) := r_iinc (n := 4) (by decide +kernel) (by decide +kernel)
theorem kL_776 : Ok ML 776 (oGo 18) := r_goto (off := (-758)) (by decide +kernel) (by decide +kernel)
theorem kL_779 : Ok ML 779 (oS (gKo (.int 1)) 780) := r_iconst (n := 1) (by decide +kernel) (by decide +kernel)
theorem dL_20 : decode ML.2.1 20 = .ok (.arraylength, 1) := by decide +kernel
theorem dL_28 : decode ML.2.1 28 = .ok (.iaload, 1) := by decide +kernel
theorem dL_31 : decode ML.2.1 31 = .ok (.iand, 1) := by decide +kernel
theorem dL_153 : decode ML.2.1 153 = .ok (.iaload, 1) := by decide +kernel
theorem dL_163 : decode ML.2.1 163 = .ok (.iaload, 1) := by decide +kernel
theorem dL_202 : decode ML.2.1 202 = .ok (.iaload, 1) := by decide +kernel
theorem dL_212 : decode ML.2.1 212 = .ok (.iaload, 1) := by decide +kernel
theorem dL_225 : decode ML.2.1 225 = .ok (.iaload, 1) := by decide +kernel
theorem dL_230 : decode ML.2.1 230 = .ok (.iaload, 1) := by decide +kernel
theorem dL_240 : decode ML.2.1 240 = .ok (.iaload, 1) := by decide +kernel
theorem dL_245 : decode ML.2.1 245 = .ok (.iaload, 1) := by decide +kernel
theorem dL_258 : decode ML.2.1 258 = .ok (.iaload, 1) := by decide +kernel
theorem dL_263 : decode ML.2.1 263 = .ok (.iaload, 1) := by decide +kernel
theorem dL_273 : decode ML.2.1 273 = .ok (.iaload, 1) := by decide +kernel
theorem dL_278 : decode ML.2.1 278 = .ok (.iaload, 1) := by decide +kernel
theorem dL_291 : decode ML.2.1 291 = .ok (.iaload, 1) := by decide +kernel
theorem dL_296 : decode ML.2.1 296 = .ok (.iaload, 1) := by decide +kernel
theorem dL_306 : decode ML.2.1 306 = .ok (.iaload, 1) := by decide +kernel
theorem dL_311 : decode ML.2.1 311 = .ok (.iaload, 1) := by decide +kernel
theorem dL_324 : decode ML.2.1 324 = .ok (.iaload, 1) := by decide +kernel
theorem dL_334 : decode ML.2.1 334 = .ok (.iaload, 1) := by decide +kernel
theorem dL_347 : decode ML.2.1 347 = .ok (.iaload, 1) := by decide +kernel
theorem dL_352 : decode ML.2.1 352 = .ok (.iaload, 1) := by decide +kernel
theorem dL_357 : decode ML.2.1 357 = .ok (.iaload, 1) := by decide +kernel
theorem dL_367 : decode ML.2.1 367 = .ok (.iaload, 1) := by decide +kernel
theorem dL_372 : decode ML.2.1 372 = .ok (.iaload, 1) := by decide +kernel
theorem dL_377 : decode ML.2.1 377 = .ok (.iaload, 1) := by decide +kernel
theorem dL_390 : decode ML.2.1 390 = .ok (.iaload, 1) := by decide +kernel
theorem dL_395 : decode ML.2.1 395 = .ok (.iaload, 1) := by decide +kernel
theorem dL_405 : decode ML.2.1 405 = .ok (.iaload, 1) := by decide +kernel
theorem dL_410 : decode ML.2.1 410 = .ok (.iaload, 1) := by decide +kernel
theorem dL_423 : decode ML.2.1 423 = .ok (.iaload, 1) := by decide +kernel
theorem dL_433 : decode ML.2.1 433 = .ok (.iaload, 1) := by decide +kernel
theorem dL_446 : decode ML.2.1 446 = .ok (.iaload, 1) := by decide +kernel
theorem dL_451 : decode ML.2.1 451 = .ok (.iaload, 1) := by decide +kernel
theorem dL_461 : decode ML.2.1 461 = .ok (.iaload, 1) := by decide +kernel
theorem dL_466 : decode ML.2.1 466 = .ok (.iaload, 1) := by decide +kernel
theorem dL_479 : decode ML.2.1 479 = .ok (.iaload, 1) := by decide +kernel
theorem dL_484 : decode ML.2.1 484 = .ok (.iaload, 1) := by decide +kernel
theorem dL_494 : decode ML.2.1 494 = .ok (.iaload, 1) := by decide +kernel
theorem dL_499 : decode ML.2.1 499 = .ok (.iaload, 1) := by decide +kernel
theorem dL_512 : decode ML.2.1 512 = .ok (.iaload, 1) := by decide +kernel
theorem dL_522 : decode ML.2.1 522 = .ok (.iaload, 1) := by decide +kernel
theorem dL_535 : decode ML.2.1 535 = .ok (.iaload, 1) := by decide +kernel
theorem dL_545 : decode ML.2.1 545 = .ok (.iaload, 1) := by decide +kernel
theorem dL_558 : decode ML.2.1 558 = .ok (.iaload, 1) := by decide +kernel
theorem dL_568 : decode ML.2.1 568 = .ok (.iaload, 1) := by decide +kernel
theorem dL_594 : decode ML.2.1 594 = .ok (.iaload, 1) := by decide +kernel
theorem dL_604 : decode ML.2.1 604 = .ok (.iaload, 1) := by decide +kernel
theorem dL_617 : decode ML.2.1 617 = .ok (.iaload, 1) := by decide +kernel
theorem dL_622 : decode ML.2.1 622 = .ok (.iaload, 1) := by decide +kernel
theorem dL_632 : decode ML.2.1 632 = .ok (.iaload, 1) := by decide +kernel
theorem dL_637 : decode ML.2.1 637 = .ok (.iaload, 1) := by decide +kernel
theorem dL_650 : decode ML.2.1 650 = .ok (.iaload, 1) := by decide +kernel
theorem dL_660 : decode ML.2.1 660 = .ok (.iaload, 1) := by decide +kernel
theorem dL_673 : decode ML.2.1 673 = .ok (.iaload, 1) := by decide +kernel
theorem dL_683 : decode ML.2.1 683 = .ok (.iaload, 1) := by decide +kernel
theorem dL_696 : decode ML.2.1 696 = .ok (.iaload, 1) := by decide +kernel
theorem dL_701 : decode ML.2.1 701 = .ok (.iaload, 1) := by decide +kernel
theorem dL_711 : decode ML.2.1 711 = .ok (.iaload, 1) := by decide +kernel
theorem dL_716 : decode ML.2.1 716 = .ok (.iaload, 1) := by decide +kernel
theorem dL_742 : decode ML.2.1 742 = .ok (.iaload, 1) := by decide +kernel
theorem dL_752 : decode ML.2.1 752 = .ok (.iaload, 1) := by decide +kernel
