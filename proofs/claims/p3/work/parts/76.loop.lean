/-! THE LAW's loop -/
theorem otb (ts : List Nat) (dt : Nat) (lv : aL) (h : aH) (k : Nat) (hk : k < 32) : oTb ts dt lv [.inl (.int (nI k))] h = some (.inl (ts.getD k dt, lv, [], h, 0, 0)) := by
  unfold oTb
  dsimp only
  rw [decide_eq_false (nI_pos (n := k) (by omega)), nI_clamp (n := k) (by omega), List.getD_eq_getElem?_getD]
  dsimp only
  cases ts[k]? <;> rfl
theorem law_773 {Γ : cX} {L : Nat} {xs : Nat → Int32} (C : LX Γ L xs) {Q : State → Prop} {j : Nat} {h : aH} (k : WX Γ Q 18 (lvJ (j + 1)) [] h) : WX Γ Q 773 (lvJ j) [] h := by
  have e : oInc 3 4 4 776 (lvJ j) [] h = frI (nI (4 * j) + 4) (fun z => fltF (st1 3) (lvJ j) (fun lv' => nx 776 ((3, .inl (.int z)) :: lv') [] h)) := rfl
  have e2 : oInc 3 4 4 776 (lvJ j) [] h = some (.inl (776, lvJ (j + 1), [], h, 0, 0)) := by
    rw [e, frI_eq, fltF_eq, show nI (4 * j) + 4 = nI (4 * (j + 1)) from nI_add (4 * j) 4]
    rfl
  refine wn C kL_773 e2 ?_
  exact wn C kL_776 rfl k
theorem law_26 {Γ : cX} {L : Nat} {xs : Nat → Int32} (C : LX Γ L xs) (hL : L ≤ 2048) {Q : State → Prop} {j : Nat} (hj : 4 * j + 4 ≤ L) {z : Int} {h : aH} (H : Iv z h) (K : ∀ (z : Int) (h : aH), Iv z h → WX Γ Q 773 (lvJ j) [] h) : WX Γ Q 26 (lvJ j) [] h := by
  refine wn C kL_26 (show oLA 0 27 (lvJ j) [] h = some (.inl (27, lvJ j, [.inr (2, 0)], h, 0, 0)) from rfl) ?_
  refine wn C kL_27 (show oLI 3 28 (lvJ j) [.inr (2, 0)] h = some (.inl (28, lvJ j, [.inl (.int (nI (4 * j))), .inr (2, 0)], h, 0, 0)) from rfl) ?_
  refine wld C hL dL_28 (by omega) ?_
  refine wn C kL_29 (show oS (gKo (.int 31)) 31 (lvJ j) [.inl (.int (xs (4 * j)))] h = some (.inl (31, lvJ j, [.inl (.int 31), .inl (.int (xs (4 * j)))], h, 0, 0)) from rfl) ?_
  refine wn C (r_iand dL_31) (oI2 f_iand _ _ _ _ _ _) ?_
  obtain ⟨k, hk, ek⟩ := pk_andE (xs (4 * j)) (m := 31) 5 (by decide)
  rw [show f_iand (xs (4 * j)) 31 = nI k from ek]
  match k, hk with
  | 0, hk => exact wn C kL_32 (otb _ _ _ _ 0 hk) (lc_0 C hL hj H K)
  | 1, hk => exact wn C kL_32 (otb _ _ _ _ 1 hk) (lc_1 C hL hj H K)
  | 2, hk => exact wn C kL_32 (otb _ _ _ _ 2 hk) (lc_2 C hL hj H K)
  | 3, hk => exact wn C kL_32 (otb _ _ _ _ 3 hk) (lc_3 C hL hj H K)
  | 4, hk => exact wn C kL_32 (otb _ _ _ _ 4 hk) (lc_4 C hL hj H K)
  | 5, hk => exact wn C kL_32 (otb _ _ _ _ 5 hk) (lc_5 C hL hj H K)
  | 6, hk => exact wn C kL_32 (otb _ _ _ _ 6 hk) (lc_6 C hL hj H K)
  | 7, hk => exact wn C kL_32 (otb _ _ _ _ 7 hk) (lc_7 C hL hj H K)
  | 8, hk => exact wn C kL_32 (otb _ _ _ _ 8 hk) (lc_8 C hL hj H K)
  | 9, hk => exact wn C kL_32 (otb _ _ _ _ 9 hk) (lc_9 C hL hj H K)
  | 10, hk => exact wn C kL_32 (otb _ _ _ _ 10 hk) (lc_10 C hL hj H K)
  | 11, hk => exact wn C kL_32 (otb _ _ _ _ 11 hk) (lc_11 C hL hj H K)
  | 12, hk => exact wn C kL_32 (otb _ _ _ _ 12 hk) (lc_12 C hL hj H K)
  | 13, hk => exact wn C kL_32 (otb _ _ _ _ 13 hk) (lc_13 C hL hj H K)
  | 14, hk => exact wn C kL_32 (otb _ _ _ _ 14 hk) (lc_14 C hL hj H K)
  | 15, hk => exact wn C kL_32 (otb _ _ _ _ 15 hk) (lc_15 C hL hj H K)
  | 16, hk => exact wn C kL_32 (otb _ _ _ _ 16 hk) (lc_16 C hL hj H K)
  | 17, hk => exact wn C kL_32 (otb _ _ _ _ 17 hk) (lc_17 C hL hj H K)
  | 18, hk => exact wn C kL_32 (otb _ _ _ _ 18 hk) (lc_18 C hL hj H K)
  | 19, hk => exact wn C kL_32 (otb _ _ _ _ 19 hk) (lc_19 C hL hj H K)
  | 20, hk => exact wn C kL_32 (otb _ _ _ _ 20 hk) (lc_20 C hL hj H K)
  | 21, hk => exact wn C kL_32 (otb _ _ _ _ 21 hk) (lc_21 C hL hj H K)
  | 22, hk => exact wn C kL_32 (otb _ _ _ _ 22 hk) (lc_22 C hL hj H K)
  | 23, hk => exact wn C kL_32 (otb _ _ _ _ 23 hk) (lc_23 C hL hj H K)
  | 24, hk => exact wn C kL_32 (otb _ _ _ _ 24 hk) (lc_24 C hL hj H K)
  | 25, hk => exact wn C kL_32 (otb _ _ _ _ 25 hk) (K z h H)
  | 26, hk => exact wn C kL_32 (otb _ _ _ _ 26 hk) (K z h H)
  | 27, hk => exact wn C kL_32 (otb _ _ _ _ 27 hk) (K z h H)
  | 28, hk => exact wn C kL_32 (otb _ _ _ _ 28 hk) (K z h H)
  | 29, hk => exact wn C kL_32 (otb _ _ _ _ 29 hk) (K z h H)
  | 30, hk => exact wn C kL_32 (otb _ _ _ _ 30 hk) (K z h H)
  | 31, hk => exact wn C kL_32 (otb _ _ _ _ 31 hk) (K z h H)
  | k + 32, hk => exact absurd hk (by omega)
theorem sub4 {L : Nat} (hL : L ≤ 2048) : (f_isub (nI L) 4).toInt = (L : Int) - 4 := by
  show (nI L - 4).toInt = _
  rw [Int32.toInt_sub, nI_toInt (by omega)]
  have e : (4 : Int32).toInt = 4 := by decide
  rw [e]
  exact Int.bmod_eq_of_le (by omega) (by omega)
theorem law_18 {Γ : cX} {L : Nat} {xs : Nat → Int32} (C : LX Γ L xs) (hL : L ≤ 2048) {Q : State → Prop} {j : Nat} (hj : 4 * j ≤ 4096) {h : aH} (K1 : 4 * j + 4 ≤ L → WX Γ Q 26 (lvJ j) [] h) (K2 : ¬ 4 * j + 4 ≤ L → WX Γ Q 779 (lvJ j) [] h) : WX Γ Q 18 (lvJ j) [] h := by
  refine wn C kL_18 (show oLI 3 19 (lvJ j) [] h = some (.inl (19, lvJ j, [.inl (.int (nI (4 * j)))], h, 0, 0)) from rfl) ?_
  refine wn C kL_19 (show oLA 0 20 (lvJ j) [.inl (.int (nI (4 * j)))] h = some (.inl (20, lvJ j, [.inr (2, 0), .inl (.int (nI (4 * j)))], h, 0, 0)) from rfl) ?_
  refine wlen C dL_20 ?_
  refine wn C kL_21 (show oS (gKo (.int 4)) 22 (lvJ j) [.inl (.int (nI L)), .inl (.int (nI (4 * j)))] h = some (.inl (22, lvJ j, [.inl (.int 4), .inl (.int (nI L)), .inl (.int (nI (4 * j)))], h, 0, 0)) from rfl) ?_
  refine wn C kL_22 (oI2 f_isub _ _ _ _ _ _) ?_
  have s4 := sub4 hL
  have sj : (nI (4 * j)).toInt = ((4 * j : Nat) : Int) := nI_toInt (by omega)
  by_cases q : 4 * j + 4 ≤ L
  · refine wn C kL_23 (show oB2 b_icmp_gt q_gt 779 26 (lvJ j) [.inl (.int (f_isub (nI L) 4)), .inl (.int (nI (4 * j)))] h = some (.inl (26, lvJ j, [], h, 0, 0)) from by
      unfold oB2
      dsimp only
      rw [show b_icmp_gt (nI (4 * j)) (f_isub (nI L) 4) = false from decide_eq_false (fun g => by
        have g := Int32.lt_iff_toInt_lt.mp g
        omega)]
      rfl) (K1 q)
  · refine wn C kL_23 (show oB2 b_icmp_gt q_gt 779 26 (lvJ j) [.inl (.int (f_isub (nI L) 4)), .inl (.int (nI (4 * j)))] h = some (.inl (779, lvJ j, [], h, 0, 0)) from by
      unfold oB2
      dsimp only
      rw [show b_icmp_gt (nI (4 * j)) (f_isub (nI L) 4) = true from decide_eq_true (Int32.lt_iff_toInt_lt.mpr (by omega))]
      rfl) (K2 q)
theorem law_loop {Γ : cX} {L : Nat} {xs : Nat → Int32} (C : LX Γ L xs) (hL : L ≤ 2048) {Q : State → Prop} (K : ∀ (j : Nat) (h : aH), WX Γ Q 779 (lvJ j) [] h) : ∀ (n j : Nat), L < 4 * j + 4 * n → 4 * j ≤ L + 4 → ∀ (z : Int) (h : aH), Iv z h → WX Γ Q 18 (lvJ j) [] h := by
  intro n
  induction n with
  | zero => intro j hn hj z h H; exact law_18 C hL (by omega) (fun q => absurd q (by omega)) (fun _ => K j h)
  | succ n ih =>
    intro j hn hj z h H
    refine law_18 C hL (by omega) (fun q => law_26 C hL q H (fun z h H => law_773 C (ih (j + 1) (by omega) (by omega) z h H))) (fun _ => K j h)
