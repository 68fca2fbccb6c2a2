/-! THE LAW: each of its calls -/
theorem lc_0 {Γ : cX} {L : Nat} {xs : Nat → Int32} (C : LX Γ L xs) (hL : L ≤ 2048) {Q : State → Prop} {j : Nat} (hj : 4 * j + 4 ≤ L) {z : Int} {h : aH} (H : Iv z h) (K : ∀ (z : Int) (h : aH), Iv z h → WX Γ Q 773 (lvJ j) [] h) : WX Γ Q 148 (lvJ j) [] h := by
  refine wn C kL_148 rfl ?_
  refine welem C hL hj 1 (by decide) kL_149 kL_150 kL_151 rfl kL_152 dL_153 ?_
  obtain ⟨v, h1, h2, R1, ⟨fs2, q2⟩, R2, z', I2⟩ := sm_63 H (xs (4 * j + 1))
  obtain ⟨fs, q0⟩ := H.o0
  refine wcall C kL_154 (ocv1 q0 rfl) R1 ?_
  refine wn C kL_157 rfl ?_
  refine wn C kL_158 rfl ?_
  refine welem C hL hj 1 (by decide) kL_159 kL_160 kL_161 rfl kL_162 dL_163 ?_
  refine wcall C kL_164 (ocv1 q2 rfl) R2 ?_
  refine wn C kL_167 rfl ?_
  refine wn C kL_168 rfl ?_
  exact K _ _ I2
theorem lc_1 {Γ : cX} {L : Nat} {xs : Nat → Int32} (C : LX Γ L xs) (hL : L ≤ 2048) {Q : State → Prop} {j : Nat} (hj : 4 * j + 4 ≤ L) {z : Int} {h : aH} (H : Iv z h) (K : ∀ (z : Int) (h : aH), Iv z h → WX Γ Q 773 (lvJ j) [] h) : WX Γ Q 171 (lvJ j) [] h := by
  refine wn C kL_171 rfl ?_
  obtain ⟨v, h1, h2, R1, ⟨fs2, q2⟩, R2, z', I2⟩ := sm_64 H 0
  obtain ⟨fs, q0⟩ := H.o0
  refine wcall C kL_172 (ocv0 q0 rfl) R1 ?_
  refine wn C kL_175 rfl ?_
  refine wcall C kL_176 (ocv0 q2 rfl) R2 ?_
  refine wn C kL_179 (show oB2 b_icmp_eq q_eq 773 182 (lvJ j) (.inl (.int v) :: .inl (.int v) :: []) h2 = some (.inl (773, lvJ j, [], h2, 0, 0)) from by unfold oB2; dsimp only; rw [show b_icmp_eq v v = true from by unfold b_icmp_eq; simp]; rfl) ?_
  exact K _ _ I2
theorem lc_2 {Γ : cX} {L : Nat} {xs : Nat → Int32} (C : LX Γ L xs) (hL : L ≤ 2048) {Q : State → Prop} {j : Nat} (hj : 4 * j + 4 ≤ L) {z : Int} {h : aH} (H : Iv z h) (K : ∀ (z : Int) (h : aH), Iv z h → WX Γ Q 773 (lvJ j) [] h) : WX Γ Q 184 (lvJ j) [] h := by
  refine wn C kL_184 rfl ?_
  obtain ⟨v1, h1, R1, I1⟩ := sm_65 H 0 0 0
  obtain ⟨fs1, q1⟩ := H.o0
  refine wcall C kL_185 (ocv0 q1 rfl) R1 ?_
  refine wn C kL_188 rfl ?_
  refine wn C kL_189 rfl ?_
  obtain ⟨v2, h2, R2, I2⟩ := sm_119 I1 0 0 0
  obtain ⟨fs2, q2⟩ := I1.o89
  refine wcall C kL_190 (ocv0 q2 rfl) R2 ?_
  refine wn C kL_193 rfl ?_
  refine wn C kL_194 rfl ?_
  exact K _ _ I2
theorem lc_3 {Γ : cX} {L : Nat} {xs : Nat → Int32} (C : LX Γ L xs) (hL : L ≤ 2048) {Q : State → Prop} {j : Nat} (hj : 4 * j + 4 ≤ L) {z : Int} {h : aH} (H : Iv z h) (K : ∀ (z : Int) (h : aH), Iv z h → WX Γ Q 773 (lvJ j) [] h) : WX Γ Q 197 (lvJ j) [] h := by
  refine wn C kL_197 rfl ?_
  refine welem C hL hj 1 (by decide) kL_198 kL_199 kL_200 rfl kL_201 dL_202 ?_
  obtain ⟨v1, h1, R1, I1⟩ := sm_66 H (xs (4 * j + 1)) 0 0
  obtain ⟨fs1, q1⟩ := H.o0
  refine wcall C kL_203 (ocv1 q1 rfl) R1 ?_
  refine wn C kL_206 rfl ?_
  refine wn C kL_207 rfl ?_
  refine welem C hL hj 1 (by decide) kL_208 kL_209 kL_210 rfl kL_211 dL_212 ?_
  obtain ⟨v2, h2, R2, I2⟩ := sm_121 I1 (xs (4 * j + 1)) 0 0
  obtain ⟨fs2, q2⟩ := I1.o89
  refine wcall C kL_213 (ocv1 q2 rfl) R2 ?_
  refine wn C kL_216 rfl ?_
  refine wn C kL_217 rfl ?_
  exact K _ _ I2
theorem lc_4 {Γ : cX} {L : Nat} {xs : Nat → Int32} (C : LX Γ L xs) (hL : L ≤ 2048) {Q : State → Prop} {j : Nat} (hj : 4 * j + 4 ≤ L) {z : Int} {h : aH} (H : Iv z h) (K : ∀ (z : Int) (h : aH), Iv z h → WX Γ Q 773 (lvJ j) [] h) : WX Γ Q 220 (lvJ j) [] h := by
  refine wn C kL_220 rfl ?_
  refine welem C hL hj 1 (by decide) kL_221 kL_222 kL_223 rfl kL_224 dL_225 ?_
  refine welem C hL hj 2 (by decide) kL_226 kL_227 kL_228 rfl kL_229 dL_230 ?_
  obtain ⟨v1, h1, R1, I1⟩ := sm_67 H (xs (4 * j + 1)) (xs (4 * j + 2)) 0
  obtain ⟨fs1, q1⟩ := H.o0
  refine wcall C kL_231 (ocv2 q1 rfl) R1 ?_
  refine wn C kL_234 rfl ?_
  refine wn C kL_235 rfl ?_
  refine welem C hL hj 1 (by decide) kL_236 kL_237 kL_238 rfl kL_239 dL_240 ?_
  refine welem C hL hj 2 (by decide) kL_241 kL_242 kL_243 rfl kL_244 dL_245 ?_
  obtain ⟨v2, h2, R2, I2⟩ := sm_132 I1 (xs (4 * j + 1)) (xs (4 * j + 2)) 0
  obtain ⟨fs2, q2⟩ := I1.o89
  refine wcall C kL_246 (ocv2 q2 rfl) R2 ?_
  refine wn C kL_249 rfl ?_
  refine wn C kL_250 rfl ?_
  exact K _ _ I2
theorem lc_5 {Γ : cX} {L : Nat} {xs : Nat → Int32} (C : LX Γ L xs) (hL : L ≤ 2048) {Q : State → Prop} {j : Nat} (hj : 4 * j + 4 ≤ L) {z : Int} {h : aH} (H : Iv z h) (K : ∀ (z : Int) (h : aH), Iv z h → WX Γ Q 773 (lvJ j) [] h) : WX Γ Q 253 (lvJ j) [] h := by
  refine wn C kL_253 rfl ?_
  refine welem C hL hj 1 (by decide) kL_254 kL_255 kL_256 rfl kL_257 dL_258 ?_
  refine welem C hL hj 2 (by decide) kL_259 kL_260 kL_261 rfl kL_262 dL_263 ?_
  obtain ⟨v1, h1, R1, I1⟩ := sm_68 H (xs (4 * j + 1)) (xs (4 * j + 2)) 0
  obtain ⟨fs1, q1⟩ := H.o0
  refine wcall C kL_264 (ocv2 q1 rfl) R1 ?_
  refine wn C kL_267 rfl ?_
  refine wn C kL_268 rfl ?_
  refine welem C hL hj 1 (by decide) kL_269 kL_270 kL_271 rfl kL_272 dL_273 ?_
  refine welem C hL hj 2 (by decide) kL_274 kL_275 kL_276 rfl kL_277 dL_278 ?_
  obtain ⟨v2, h2, R2, I2⟩ := sm_134 I1 (xs (4 * j + 1)) (xs (4 * j + 2)) 0
  obtain ⟨fs2, q2⟩ := I1.o89
  refine wcall C kL_279 (ocv2 q2 rfl) R2 ?_
  refine wn C kL_282 rfl ?_
  refine wn C kL_283 rfl ?_
  exact K _ _ I2
theorem lc_6 {Γ : cX} {L : Nat} {xs : Nat → Int32} (C : LX Γ L xs) (hL : L ≤ 2048) {Q : State → Prop} {j : Nat} (hj : 4 * j + 4 ≤ L) {z : Int} {h : aH} (H : Iv z h) (K : ∀ (z : Int) (h : aH), Iv z h → WX Γ Q 773 (lvJ j) [] h) : WX Γ Q 286 (lvJ j) [] h := by
  refine wn C kL_286 rfl ?_
  refine welem C hL hj 1 (by decide) kL_287 kL_288 kL_289 rfl kL_290 dL_291 ?_
  refine welem C hL hj 2 (by decide) kL_292 kL_293 kL_294 rfl kL_295 dL_296 ?_
  obtain ⟨v1, h1, R1, I1⟩ := sm_69 H (xs (4 * j + 1)) (xs (4 * j + 2)) 0
  obtain ⟨fs1, q1⟩ := H.o0
  refine wcall C kL_297 (ocv2 q1 rfl) R1 ?_
  refine wn C kL_300 rfl ?_
  refine wn C kL_301 rfl ?_
  refine welem C hL hj 1 (by decide) kL_302 kL_303 kL_304 rfl kL_305 dL_306 ?_
  refine welem C hL hj 2 (by decide) kL_307 kL_308 kL_309 rfl kL_310 dL_311 ?_
  obtain ⟨v2, h2, R2, I2⟩ := sm_135 I1 (xs (4 * j + 1)) (xs (4 * j + 2)) 0
  obtain ⟨fs2, q2⟩ := I1.o89
  refine wcall C kL_312 (ocv2 q2 rfl) R2 ?_
  refine wn C kL_315 rfl ?_
  refine wn C kL_316 rfl ?_
  exact K _ _ I2
theorem lc_7 {Γ : cX} {L : Nat} {xs : Nat → Int32} (C : LX Γ L xs) (hL : L ≤ 2048) {Q : State → Prop} {j : Nat} (hj : 4 * j + 4 ≤ L) {z : Int} {h : aH} (H : Iv z h) (K : ∀ (z : Int) (h : aH), Iv z h → WX Γ Q 773 (lvJ j) [] h) : WX Γ Q 319 (lvJ j) [] h := by
  refine wn C kL_319 rfl ?_
  refine welem C hL hj 1 (by decide) kL_320 kL_321 kL_322 rfl kL_323 dL_324 ?_
  obtain ⟨v1, h1, R1, I1⟩ := sm_70 H (xs (4 * j + 1)) 0 0
  obtain ⟨fs1, q1⟩ := H.o0
  refine wcall C kL_325 (ocv1 q1 rfl) R1 ?_
  refine wn C kL_328 rfl ?_
  refine wn C kL_329 rfl ?_
  refine welem C hL hj 1 (by decide) kL_330 kL_331 kL_332 rfl kL_333 dL_334 ?_
  obtain ⟨v2, h2, R2, I2⟩ := sm_127 I1 (xs (4 * j + 1)) 0 0
  obtain ⟨fs2, q2⟩ := I1.o89
  refine wcall C kL_335 (ocv1 q2 rfl) R2 ?_
  refine wn C kL_338 rfl ?_
  refine wn C kL_339 rfl ?_
  exact K _ _ I2
theorem lc_8 {Γ : cX} {L : Nat} {xs : Nat → Int32} (C : LX Γ L xs) (hL : L ≤ 2048) {Q : State → Prop} {j : Nat} (hj : 4 * j + 4 ≤ L) {z : Int} {h : aH} (H : Iv z h) (K : ∀ (z : Int) (h : aH), Iv z h → WX Γ Q 773 (lvJ j) [] h) : WX Γ Q 342 (lvJ j) [] h := by
  refine wn C kL_342 rfl ?_
  refine welem C hL hj 1 (by decide) kL_343 kL_344 kL_345 rfl kL_346 dL_347 ?_
  refine welem C hL hj 2 (by decide) kL_348 kL_349 kL_350 rfl kL_351 dL_352 ?_
  refine welem C hL hj 3 (by decide) kL_353 kL_354 kL_355 rfl kL_356 dL_357 ?_
  obtain ⟨v1, h1, R1, I1⟩ := sm_71 H (xs (4 * j + 1)) (xs (4 * j + 2)) (xs (4 * j + 3))
  obtain ⟨fs1, q1⟩ := H.o0
  refine wcall C kL_358 (ocv3 q1 rfl) R1 ?_
  refine wn C kL_361 rfl ?_
  refine wn C kL_362 rfl ?_
  refine welem C hL hj 1 (by decide) kL_363 kL_364 kL_365 rfl kL_366 dL_367 ?_
  refine welem C hL hj 2 (by decide) kL_368 kL_369 kL_370 rfl kL_371 dL_372 ?_
  refine welem C hL hj 3 (by decide) kL_373 kL_374 kL_375 rfl kL_376 dL_377 ?_
  obtain ⟨v2, h2, R2, I2⟩ := sm_136 I1 (xs (4 * j + 1)) (xs (4 * j + 2)) (xs (4 * j + 3))
  obtain ⟨fs2, q2⟩ := I1.o89
  refine wcall C kL_378 (ocv3 q2 rfl) R2 ?_
  refine wn C kL_381 rfl ?_
  refine wn C kL_382 rfl ?_
  exact K _ _ I2
theorem lc_9 {Γ : cX} {L : Nat} {xs : Nat → Int32} (C : LX Γ L xs) (hL : L ≤ 2048) {Q : State → Prop} {j : Nat} (hj : 4 * j + 4 ≤ L) {z : Int} {h : aH} (H : Iv z h) (K : ∀ (z : Int) (h : aH), Iv z h → WX Γ Q 773 (lvJ j) [] h) : WX Γ Q 385 (lvJ j) [] h := by
  refine wn C kL_385 rfl ?_
  refine welem C hL hj 1 (by decide) kL_386 kL_387 kL_388 rfl kL_389 dL_390 ?_
  refine welem C hL hj 2 (by decide) kL_391 kL_392 kL_393 rfl kL_394 dL_395 ?_
  obtain ⟨v1, h1, R1, I1⟩ := sm_72 H (xs (4 * j + 1)) (xs (4 * j + 2)) 0
  obtain ⟨fs1, q1⟩ := H.o0
  refine wcall C kL_396 (ocv2 q1 rfl) R1 ?_
  refine wn C kL_399 rfl ?_
  refine wn C kL_400 rfl ?_
  refine welem C hL hj 1 (by decide) kL_401 kL_402 kL_403 rfl kL_404 dL_405 ?_
  refine welem C hL hj 2 (by decide) kL_406 kL_407 kL_408 rfl kL_409 dL_410 ?_
  obtain ⟨v2, h2, R2, I2⟩ := sm_137 I1 (xs (4 * j + 1)) (xs (4 * j + 2)) 0
  obtain ⟨fs2, q2⟩ := I1.o89
  refine wcall C kL_411 (ocv2 q2 rfl) R2 ?_
  refine wn C kL_414 rfl ?_
  refine wn C kL_415 rfl ?_
  exact K _ _ I2
theorem lc_10 {Γ : cX} {L : Nat} {xs : Nat → Int32} (C : LX Γ L xs) (hL : L ≤ 2048) {Q : State → Prop} {j : Nat} (hj : 4 * j + 4 ≤ L) {z : Int} {h : aH} (H : Iv z h) (K : ∀ (z : Int) (h : aH), Iv z h → WX Γ Q 773 (lvJ j) [] h) : WX Γ Q 418 (lvJ j) [] h := by
  refine wn C kL_418 rfl ?_
  refine welem C hL hj 1 (by decide) kL_419 kL_420 kL_421 rfl kL_422 dL_423 ?_
  obtain ⟨v1, h1, R1, I1⟩ := sm_73 H (xs (4 * j + 1)) 0 0
  obtain ⟨fs1, q1⟩ := H.o0
  refine wcall C kL_424 (ocv1 q1 rfl) R1 ?_
  refine wn C kL_427 rfl ?_
  refine wn C kL_428 rfl ?_
  refine welem C hL hj 1 (by decide) kL_429 kL_430 kL_431 rfl kL_432 dL_433 ?_
  obtain ⟨v2, h2, R2, I2⟩ := sm_138 I1 (xs (4 * j + 1)) 0 0
  obtain ⟨fs2, q2⟩ := I1.o89
  refine wcall C kL_434 (ocv1 q2 rfl) R2 ?_
  refine wn C kL_437 rfl ?_
  refine wn C kL_438 rfl ?_
  exact K _ _ I2
theorem lc_11 {Γ : cX} {L : Nat} {xs : Nat → Int32} (C : LX Γ L xs) (hL : L ≤ 2048) {Q : State → Prop} {j : Nat} (hj : 4 * j + 4 ≤ L) {z : Int} {h : aH} (H : Iv z h) (K : ∀ (z : Int) (h : aH), Iv z h → WX Γ Q 773 (lvJ j) [] h) : WX Γ Q 441 (lvJ j) [] h := by
  refine wn C kL_441 rfl ?_
  refine welem C hL hj 1 (by decide) kL_442 kL_443 kL_444 rfl kL_445 dL_446 ?_
  refine welem C hL hj 2 (by decide) kL_447 kL_448 kL_449 rfl kL_450 dL_451 ?_
  obtain ⟨v1, h1, R1, I1⟩ := sm_74 H (xs (4 * j + 1)) (xs (4 * j + 2)) 0
  obtain ⟨fs1, q1⟩ := H.o0
  refine wcall C kL_452 (ocv2 q1 rfl) R1 ?_
  refine wn C kL_455 rfl ?_
  refine wn C kL_456 rfl ?_
  refine welem C hL hj 1 (by decide) kL_457 kL_458 kL_459 rfl kL_460 dL_461 ?_
  refine welem C hL hj 2 (by decide) kL_462 kL_463 kL_464 rfl kL_465 dL_466 ?_
  obtain ⟨v2, h2, R2, I2⟩ := sm_140 I1 (xs (4 * j + 1)) (xs (4 * j + 2)) 0
  obtain ⟨fs2, q2⟩ := I1.o89
  refine wcall C kL_467 (ocv2 q2 rfl) R2 ?_
  refine wn C kL_470 rfl ?_
  refine wn C kL_471 rfl ?_
  exact K _ _ I2
theorem lc_12 {Γ : cX} {L : Nat} {xs : Nat → Int32} (C : LX Γ L xs) (hL : L ≤ 2048) {Q : State → Prop} {j : Nat} (hj : 4 * j + 4 ≤ L) {z : Int} {h : aH} (H : Iv z h) (K : ∀ (z : Int) (h : aH), Iv z h → WX Γ Q 773 (lvJ j) [] h) : WX Γ Q 474 (lvJ j) [] h := by
  refine wn C kL_474 rfl ?_
  refine welem C hL hj 1 (by decide) kL_475 kL_476 kL_477 rfl kL_478 dL_479 ?_
  refine welem C hL hj 2 (by decide) kL_480 kL_481 kL_482 rfl kL_483 dL_484 ?_
  obtain ⟨v1, h1, R1, I1⟩ := sm_75 H (xs (4 * j + 1)) (xs (4 * j + 2)) 0
  obtain ⟨fs1, q1⟩ := H.o0
  refine wcall C kL_485 (ocv2 q1 rfl) R1 ?_
  refine wn C kL_488 rfl ?_
  refine wn C kL_489 rfl ?_
  refine welem C hL hj 1 (by decide) kL_490 kL_491 kL_492 rfl kL_493 dL_494 ?_
  refine welem C hL hj 2 (by decide) kL_495 kL_496 kL_497 rfl kL_498 dL_499 ?_
  obtain ⟨v2, h2, R2, I2⟩ := sm_141 I1 (xs (4 * j + 1)) (xs (4 * j + 2)) 0
  obtain ⟨fs2, q2⟩ := I1.o89
  refine wcall C kL_500 (ocv2 q2 rfl) R2 ?_
  refine wn C kL_503 rfl ?_
  refine wn C kL_504 rfl ?_
  exact K _ _ I2
theorem lc_13 {Γ : cX} {L : Nat} {xs : Nat → Int32} (C : LX Γ L xs) (hL : L ≤ 2048) {Q : State → Prop} {j : Nat} (hj : 4 * j + 4 ≤ L) {z : Int} {h : aH} (H : Iv z h) (K : ∀ (z : Int) (h : aH), Iv z h → WX Γ Q 773 (lvJ j) [] h) : WX Γ Q 507 (lvJ j) [] h := by
  refine wn C kL_507 rfl ?_
  refine welem C hL hj 1 (by decide) kL_508 kL_509 kL_510 rfl kL_511 dL_512 ?_
  obtain ⟨v1, h1, R1, I1⟩ := sm_76 H (xs (4 * j + 1)) 0 0
  obtain ⟨fs1, q1⟩ := H.o0
  refine wcall C kL_513 (ocv1 q1 rfl) R1 ?_
  refine wn C kL_516 rfl ?_
  refine wn C kL_517 rfl ?_
  refine welem C hL hj 1 (by decide) kL_518 kL_519 kL_520 rfl kL_521 dL_522 ?_
  obtain ⟨v2, h2, R2, I2⟩ := sm_144 I1 (xs (4 * j + 1)) 0 0
  obtain ⟨fs2, q2⟩ := I1.o89
  refine wcall C kL_523 (ocv1 q2 rfl) R2 ?_
  refine wn C kL_526 rfl ?_
  refine wn C kL_527 rfl ?_
  exact K _ _ I2
theorem lc_14 {Γ : cX} {L : Nat} {xs : Nat → Int32} (C : LX Γ L xs) (hL : L ≤ 2048) {Q : State → Prop} {j : Nat} (hj : 4 * j + 4 ≤ L) {z : Int} {h : aH} (H : Iv z h) (K : ∀ (z : Int) (h : aH), Iv z h → WX Γ Q 773 (lvJ j) [] h) : WX Γ Q 530 (lvJ j) [] h := by
  refine wn C kL_530 rfl ?_
  refine welem C hL hj 1 (by decide) kL_531 kL_532 kL_533 rfl kL_534 dL_535 ?_
  obtain ⟨v1, h1, R1, I1⟩ := sm_77 H (xs (4 * j + 1)) 0 0
  obtain ⟨fs1, q1⟩ := H.o0
  refine wcall C kL_536 (ocv1 q1 rfl) R1 ?_
  refine wn C kL_539 rfl ?_
  refine wn C kL_540 rfl ?_
  refine welem C hL hj 1 (by decide) kL_541 kL_542 kL_543 rfl kL_544 dL_545 ?_
  obtain ⟨v2, h2, R2, I2⟩ := sm_146 I1 (xs (4 * j + 1)) 0 0
  obtain ⟨fs2, q2⟩ := I1.o89
  refine wcall C kL_546 (ocv1 q2 rfl) R2 ?_
  refine wn C kL_549 rfl ?_
  refine wn C kL_550 rfl ?_
  exact K _ _ I2
theorem lc_15 {Γ : cX} {L : Nat} {xs : Nat → Int32} (C : LX Γ L xs) (hL : L ≤ 2048) {Q : State → Prop} {j : Nat} (hj : 4 * j + 4 ≤ L) {z : Int} {h : aH} (H : Iv z h) (K : ∀ (z : Int) (h : aH), Iv z h → WX Γ Q 773 (lvJ j) [] h) : WX Γ Q 553 (lvJ j) [] h := by
  refine wn C kL_553 rfl ?_
  refine welem C hL hj 1 (by decide) kL_554 kL_555 kL_556 rfl kL_557 dL_558 ?_
  obtain ⟨v1, h1, R1, I1⟩ := sm_78 H (xs (4 * j + 1)) 0 0
  obtain ⟨fs1, q1⟩ := H.o0
  refine wcall C kL_559 (ocv1 q1 rfl) R1 ?_
  refine wn C kL_562 rfl ?_
  refine wn C kL_563 rfl ?_
  refine welem C hL hj 1 (by decide) kL_564 kL_565 kL_566 rfl kL_567 dL_568 ?_
  obtain ⟨v2, h2, R2, I2⟩ := sm_155 I1 (xs (4 * j + 1)) 0 0
  obtain ⟨fs2, q2⟩ := I1.o89
  refine wcall C kL_569 (ocv1 q2 rfl) R2 ?_
  refine wn C kL_572 rfl ?_
  refine wn C kL_573 rfl ?_
  exact K _ _ I2
theorem lc_16 {Γ : cX} {L : Nat} {xs : Nat → Int32} (C : LX Γ L xs) (hL : L ≤ 2048) {Q : State → Prop} {j : Nat} (hj : 4 * j + 4 ≤ L) {z : Int} {h : aH} (H : Iv z h) (K : ∀ (z : Int) (h : aH), Iv z h → WX Γ Q 773 (lvJ j) [] h) : WX Γ Q 576 (lvJ j) [] h := by
  refine wn C kL_576 rfl ?_
  obtain ⟨v1, h1, R1, I1⟩ := sm_79 H 0 0 0
  obtain ⟨fs1, q1⟩ := H.o0
  refine wcall C kL_577 (ocv0 q1 rfl) R1 ?_
  refine wn C kL_580 rfl ?_
  refine wn C kL_581 rfl ?_
  obtain ⟨v2, h2, R2, I2⟩ := sm_156 I1 0 0 0
  obtain ⟨fs2, q2⟩ := I1.o89
  refine wcall C kL_582 (ocv0 q2 rfl) R2 ?_
  refine wn C kL_585 rfl ?_
  refine wn C kL_586 rfl ?_
  exact K _ _ I2
theorem lc_17 {Γ : cX} {L : Nat} {xs : Nat → Int32} (C : LX Γ L xs) (hL : L ≤ 2048) {Q : State → Prop} {j : Nat} (hj : 4 * j + 4 ≤ L) {z : Int} {h : aH} (H : Iv z h) (K : ∀ (z : Int) (h : aH), Iv z h → WX Γ Q 773 (lvJ j) [] h) : WX Γ Q 589 (lvJ j) [] h := by
  refine wn C kL_589 rfl ?_
  refine welem C hL hj 1 (by decide) kL_590 kL_591 kL_592 rfl kL_593 dL_594 ?_
  obtain ⟨v1, h1, R1, I1⟩ := sm_80 H (xs (4 * j + 1)) 0 0
  obtain ⟨fs1, q1⟩ := H.o0
  refine wcall C kL_595 (ocv1 q1 rfl) R1 ?_
  refine wn C kL_598 rfl ?_
  refine wn C kL_599 rfl ?_
  refine welem C hL hj 1 (by decide) kL_600 kL_601 kL_602 rfl kL_603 dL_604 ?_
  obtain ⟨v2, h2, R2, I2⟩ := sm_158 I1 (xs (4 * j + 1)) 0 0
  obtain ⟨fs2, q2⟩ := I1.o89
  refine wcall C kL_605 (ocv1 q2 rfl) R2 ?_
  refine wn C kL_608 rfl ?_
  refine wn C kL_609 rfl ?_
  exact K _ _ I2
theorem lc_18 {Γ : cX} {L : Nat} {xs : Nat → Int32} (C : LX Γ L xs) (hL : L ≤ 2048) {Q : State → Prop} {j : Nat} (hj : 4 * j + 4 ≤ L) {z : Int} {h : aH} (H : Iv z h) (K : ∀ (z : Int) (h : aH), Iv z h → WX Γ Q 773 (lvJ j) [] h) : WX Γ Q 612 (lvJ j) [] h := by
  refine wn C kL_612 rfl ?_
  refine welem C hL hj 1 (by decide) kL_613 kL_614 kL_615 rfl kL_616 dL_617 ?_
  refine welem C hL hj 2 (by decide) kL_618 kL_619 kL_620 rfl kL_621 dL_622 ?_
  obtain ⟨v1, h1, R1, I1⟩ := sm_81 H (xs (4 * j + 1)) (xs (4 * j + 2)) 0
  obtain ⟨fs1, q1⟩ := H.o0
  refine wcall C kL_623 (ocv2 q1 rfl) R1 ?_
  refine wn C kL_626 rfl ?_
  refine wn C kL_627 rfl ?_
  refine welem C hL hj 1 (by decide) kL_628 kL_629 kL_630 rfl kL_631 dL_632 ?_
  refine welem C hL hj 2 (by decide) kL_633 kL_634 kL_635 rfl kL_636 dL_637 ?_
  obtain ⟨v2, h2, R2, I2⟩ := sm_159 I1 (xs (4 * j + 1)) (xs (4 * j + 2)) 0
  obtain ⟨fs2, q2⟩ := I1.o89
  refine wcall C kL_638 (ocv2 q2 rfl) R2 ?_
  refine wn C kL_641 rfl ?_
  refine wn C kL_642 rfl ?_
  exact K _ _ I2
theorem lc_19 {Γ : cX} {L : Nat} {xs : Nat → Int32} (C : LX Γ L xs) (hL : L ≤ 2048) {Q : State → Prop} {j : Nat} (hj : 4 * j + 4 ≤ L) {z : Int} {h : aH} (H : Iv z h) (K : ∀ (z : Int) (h : aH), Iv z h → WX Γ Q 773 (lvJ j) [] h) : WX Γ Q 645 (lvJ j) [] h := by
  refine wn C kL_645 rfl ?_
  refine welem C hL hj 1 (by decide) kL_646 kL_647 kL_648 rfl kL_649 dL_650 ?_
  obtain ⟨v1, h1, R1, I1⟩ := sm_82 H (xs (4 * j + 1)) 0 0
  obtain ⟨fs1, q1⟩ := H.o0
  refine wcall C kL_651 (ocv1 q1 rfl) R1 ?_
  refine wn C kL_654 rfl ?_
  refine wn C kL_655 rfl ?_
  refine welem C hL hj 1 (by decide) kL_656 kL_657 kL_658 rfl kL_659 dL_660 ?_
  obtain ⟨v2, h2, R2, I2⟩ := sm_160 I1 (xs (4 * j + 1)) 0 0
  obtain ⟨fs2, q2⟩ := I1.o89
  refine wcall C kL_661 (ocv1 q2 rfl) R2 ?_
  refine wn C kL_664 rfl ?_
  refine wn C kL_665 rfl ?_
  exact K _ _ I2
theorem lc_20 {Γ : cX} {L : Nat} {xs : Nat → Int32} (C : LX Γ L xs) (hL : L ≤ 2048) {Q : State → Prop} {j : Nat} (hj : 4 * j + 4 ≤ L) {z : Int} {h : aH} (H : Iv z h) (K : ∀ (z : Int) (h : aH), Iv z h → WX Γ Q 773 (lvJ j) [] h) : WX Γ Q 668 (lvJ j) [] h := by
  refine wn C kL_668 rfl ?_
  refine welem C hL hj 1 (by decide) kL_669 kL_670 kL_671 rfl kL_672 dL_673 ?_
  obtain ⟨v1, h1, R1, I1⟩ := sm_83 H (xs (4 * j + 1)) 0 0
  obtain ⟨fs1, q1⟩ := H.o0
  refine wcall C kL_674 (ocv1 q1 rfl) R1 ?_
  refine wn C kL_677 rfl ?_
  refine wn C kL_678 rfl ?_
  refine welem C hL hj 1 (by decide) kL_679 kL_680 kL_681 rfl kL_682 dL_683 ?_
  obtain ⟨v2, h2, R2, I2⟩ := sm_161 I1 (xs (4 * j + 1)) 0 0
  obtain ⟨fs2, q2⟩ := I1.o89
  refine wcall C kL_684 (ocv1 q2 rfl) R2 ?_
  refine wn C kL_687 rfl ?_
  refine wn C kL_688 rfl ?_
  exact K _ _ I2
theorem lc_21 {Γ : cX} {L : Nat} {xs : Nat → Int32} (C : LX Γ L xs) (hL : L ≤ 2048) {Q : State → Prop} {j : Nat} (hj : 4 * j + 4 ≤ L) {z : Int} {h : aH} (H : Iv z h) (K : ∀ (z : Int) (h : aH), Iv z h → WX Γ Q 773 (lvJ j) [] h) : WX Γ Q 691 (lvJ j) [] h := by
  refine wn C kL_691 rfl ?_
  refine welem C hL hj 1 (by decide) kL_692 kL_693 kL_694 rfl kL_695 dL_696 ?_
  refine welem C hL hj 2 (by decide) kL_697 kL_698 kL_699 rfl kL_700 dL_701 ?_
  obtain ⟨v1, h1, R1, I1⟩ := sm_84 H (xs (4 * j + 1)) (xs (4 * j + 2)) 0
  obtain ⟨fs1, q1⟩ := H.o0
  refine wcall C kL_702 (ocv2 q1 rfl) R1 ?_
  refine wn C kL_705 rfl ?_
  refine wn C kL_706 rfl ?_
  refine welem C hL hj 1 (by decide) kL_707 kL_708 kL_709 rfl kL_710 dL_711 ?_
  refine welem C hL hj 2 (by decide) kL_712 kL_713 kL_714 rfl kL_715 dL_716 ?_
  obtain ⟨v2, h2, R2, I2⟩ := sm_163 I1 (xs (4 * j + 1)) (xs (4 * j + 2)) 0
  obtain ⟨fs2, q2⟩ := I1.o89
  refine wcall C kL_717 (ocv2 q2 rfl) R2 ?_
  refine wn C kL_720 rfl ?_
  refine wn C kL_721 rfl ?_
  exact K _ _ I2
theorem lc_22 {Γ : cX} {L : Nat} {xs : Nat → Int32} (C : LX Γ L xs) (hL : L ≤ 2048) {Q : State → Prop} {j : Nat} (hj : 4 * j + 4 ≤ L) {z : Int} {h : aH} (H : Iv z h) (K : ∀ (z : Int) (h : aH), Iv z h → WX Γ Q 773 (lvJ j) [] h) : WX Γ Q 724 (lvJ j) [] h := by
  refine wn C kL_724 rfl ?_
  obtain ⟨v1, h1, R1, I1⟩ := sm_85 H 0 0 0
  obtain ⟨fs1, q1⟩ := H.o0
  refine wcall C kL_725 (ocv0 q1 rfl) R1 ?_
  refine wn C kL_728 rfl ?_
  refine wn C kL_729 rfl ?_
  obtain ⟨v2, h2, R2, I2⟩ := sm_164 I1 0 0 0
  obtain ⟨fs2, q2⟩ := I1.o89
  refine wcall C kL_730 (ocv0 q2 rfl) R2 ?_
  refine wn C kL_733 rfl ?_
  refine wn C kL_734 rfl ?_
  exact K _ _ I2
theorem lc_23 {Γ : cX} {L : Nat} {xs : Nat → Int32} (C : LX Γ L xs) (hL : L ≤ 2048) {Q : State → Prop} {j : Nat} (hj : 4 * j + 4 ≤ L) {z : Int} {h : aH} (H : Iv z h) (K : ∀ (z : Int) (h : aH), Iv z h → WX Γ Q 773 (lvJ j) [] h) : WX Γ Q 737 (lvJ j) [] h := by
  refine wn C kL_737 rfl ?_
  refine welem C hL hj 1 (by decide) kL_738 kL_739 kL_740 rfl kL_741 dL_742 ?_
  obtain ⟨v1, h1, R1, I1⟩ := sm_86 H (xs (4 * j + 1)) 0 0
  obtain ⟨fs1, q1⟩ := H.o0
  refine wcall C kL_743 (ocv1 q1 rfl) R1 ?_
  refine wn C kL_746 rfl ?_
  refine wn C kL_747 rfl ?_
  refine welem C hL hj 1 (by decide) kL_748 kL_749 kL_750 rfl kL_751 dL_752 ?_
  obtain ⟨v2, h2, R2, I2⟩ := sm_166 I1 (xs (4 * j + 1)) 0 0
  obtain ⟨fs2, q2⟩ := I1.o89
  refine wcall C kL_753 (ocv1 q2 rfl) R2 ?_
  refine wn C kL_756 rfl ?_
  refine wn C kL_757 rfl ?_
  exact K _ _ I2
theorem lc_24 {Γ : cX} {L : Nat} {xs : Nat → Int32} (C : LX Γ L xs) (hL : L ≤ 2048) {Q : State → Prop} {j : Nat} (hj : 4 * j + 4 ≤ L) {z : Int} {h : aH} (H : Iv z h) (K : ∀ (z : Int) (h : aH), Iv z h → WX Γ Q 773 (lvJ j) [] h) : WX Γ Q 760 (lvJ j) [] h := by
  refine wn C kL_760 rfl ?_
  obtain ⟨v1, h1, R1, I1⟩ := sm_87 H 0 0 0
  obtain ⟨fs1, q1⟩ := H.o0
  refine wcall C kL_761 (ocv0 q1 rfl) R1 ?_
  refine wn C kL_764 rfl ?_
  refine wn C kL_765 rfl ?_
  obtain ⟨v2, h2, R2, I2⟩ := sm_167 I1 0 0 0
  obtain ⟨fs2, q2⟩ := I1.o89
  refine wcall C kL_766 (ocv0 q2 rfl) R2 ?_
  refine wn C kL_769 rfl ?_
  refine wn C kL_770 rfl ?_
  exact K _ _ I2
