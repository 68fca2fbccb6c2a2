/-! THE CLAIM OUT OF ONE WALK OF THE LAW'S BODY. Your part is whole_start (and what it stands on); all else here is the same for every law, but numbers. -/
def R_law : String := "PostSharesLaw"
def lw_P (b : Addr) (xs : List Int32) (args : Array Value) (s : State) : Prop := args = #[.ref b] ∧ s.IntsAt b xs ∧ xs.length ≤ 4 ∧ (Jvm.Cond.and given_1 narrow_1).before args s = true
def lw_Q (_ : Array Value) (s : State) (o : Outcome) (t : State) : Prop := o = .returned (some (.int 1)) ∧ Framed s o t [] 600000 7302250
def lw_Z (below : List Frame) (a : Array Value) (s : State) : State → Prop := fun t => ∃ o, t.status = .running ∧ Ended t below o ∧ lw_Q a s o t
/-- the law's own end, with 1 on the stack, nothing written that was there before, its room as the claim has it -/
theorem lw_ret {p : Program} {l : Launch} {e : Env} {s : State} {m : MethodId} {below : List Frame} {meth : Method} {c : Code} {b : Nat} (hx : p.tables.exec = Jvm.exec) (hb : c.code = code) (hr : meth.sig.returnType = ret) (hlocks : meth.locks = false) {pc : Nat} {H : Heap} {ls : Array Slot} (hdg : decode code pc = .ok (.ireturn, 1)) : W p l e room_1 s m #[Value.ref b] below meth c H [] 600000 7302250 (lw_Z below #[Value.ref b] s) (F0 m pc ls [.int 1]) := by
  intro T hT X
  obtain ⟨fs, hret, hrun, hended, hW, hframe⟩ := X.leave (v := some (.int 1)) (hlocks := hlocks) (fun h => by rw [hr] at h; cases h)
  have hmeth' : T.vm.method? m = some meth := X.method'
  refine ⟨T.setFrames fs, ?_, .returned (some (.int 1)), hrun, hended, rfl, ⟨_, rfl⟩, hW, hframe⟩
  jvm_step X.here [X.here.top, hx, hb, hdg, hmeth', hr, ret, narrow_b1]
  (try refine ⟨rfl, ?_⟩); (try refine ⟨rfl, ?_⟩)
  first | (intro acts; rw [hret _ acts rfl rfl rfl]) | rw [hret _ _ rfl rfl rfl]
  exact Steps.refl _
/-- what holds at the law's entry: the machine, the code, the tables' words (any of lw_tbl by 'hts w (by decide +kernel)'), the script of L ints xs at the cell b, what the Statement gives of the start (any of its parts by flat_of_before) -/
def lw_At (p : Program) (s : State) (m : MethodId) (meth : Method) (c : Code) (b L : Nat) (xs : Nat → Int32) : Prop :=
  p.tables.exec = Jvm.exec ∧ c.code = code ∧ meth.sig.returnType = ret ∧ c.maxLocals = 4 ∧ s.vm.findClass R_law = some m.cls ∧ (∀ w ∈ lw_tbl, w.before #[Value.ref b] s = true) ∧ va_X b L xs s s.heap ∧ b < s.heap.size ∧ meth.locks = false ∧ (Jvm.Cond.and given_1 narrow_1).before #[Value.ref b] s = true
/-- the end of the law -/
theorem law_end {G : aG} {d : Nat} {p : Program} {l : Launch} {e : Env} {s : State} {m : MethodId} {below : List Frame} {meth : Method} {c : Code} {b L k : Nat} {sc : List aV} (C : LC G d p room_1 s m #[Value.ref b] meth c L k sc) (lv : aL) (h : aH) (ca cb : Nat) (ha : ca ≤ 600000) (hb : cb ≤ 7302250) : Wc G ML.2.2.1 p l e room_1 s m #[Value.ref b] below meth c (lw_Z below #[Value.ref b] s) 780 lv [] h ca cb := by
  intro H locs ls hP hS hl
  obtain ⟨hF, hG, -⟩ := C
  refine lv_iconst (v := 1) (n := 1) hF.1.1 hF.1.2.1 (by decide +kernel) (by decide) ?_
  refine va_forget (fun q hq => by rw [← hG]; exact hS.2.2 q hq) ?_
  refine W.widen ha hb ?_
  exact lw_ret hF.1.1 hF.1.2.1 hF.2.1.1 hF.2.1.2.1 (by decide +kernel)
def lv16 : aL := [(2, .inl (.ref 89)), (1, .inl (.ref 0)), (0, .inr (2, 0))]
theorem law_16 {G : aG} {p : Program} {l : Launch} {e : Env} {s : State} {m : MethodId} {below : List Frame} {meth : Method} {c : Code} {b L k : Nat} {sc : List aV} (C : LC G 8 p room_1 s m #[Value.ref b] meth c L k sc) (hck : ckL L k sc = true) : Wc G ML.2.2.1 p l e room_1 s m #[Value.ref b] below meth c (lw_Z below #[Value.ref b] s) 16 lv16 [] hY 100 21436 :=
  runB_sound (PL_ok C) (Nat.le_refl 600000) (Nat.le_refl 7302250) (exM_sound l G C.1.2.1.2.2.2 LL_1 LL_2 LL_3 100000 8) (law_end C) 100000 16 lv16 [] hY 100 21436 (Nat.le_of_ble_eq_true rfl) (Nat.le_of_ble_eq_true rfl) hck
set_option maxRecDepth 100000 in
/-- the law from its entry to its loop: two objects are made -/
theorem law_0 {G : aG} {p : Program} {l : Launch} {e : Env} {s : State} {m : MethodId} {below : List Frame} {meth : Method} {c : Code} {b L k : Nat} {sc : List aV} (C : LC G 8 p room_1 s m #[Value.ref b] meth c L k sc) {Q : State → Prop} (K : Wc G ML.2.2.1 p l e room_1 s m #[Value.ref b] below meth c Q 16 lv16 [] hY 100 21436) : Wc G ML.2.2.1 p l e room_1 s m #[Value.ref b] below meth c Q 0 [(0, .inr (2, 0))] [] [] 0 0 := by
  have S := exM_sound l G C.1.2.1.2.2.2 LL_1 LL_2 LL_3 100000 8
  have e0 : (oNO 4 9 [.null, .null, .null, .null, .null, .int 0, .int 0, .int 0, .int 0] 3) [(0, .inr (2, 0))] [] [] = some (.inl (3, [(0, .inr (2, 0))], [.inl (.ref 0)], [oX], 1, 9)) := rfl
  refine okn C kL_0 _ _ _ _ e0 0 0 Q (Nat.le_of_ble_eq_true rfl) (Nat.le_of_ble_eq_true rfl) ?_
  have e3 : (oS gDu 4) [(0, .inr (2, 0))] [.inl (.ref 0)] [oX] = some (.inl (4, [(0, .inr (2, 0))], [.inl (.ref 0), .inl (.ref 0)], [oX], 0, 0)) := rfl
  refine okn C kL_3 _ _ _ _ e3 _ _ Q (Nat.le_of_ble_eq_true rfl) (Nat.le_of_ble_eq_true rfl) ?_
  have e4 : (oCI 62 0) [(0, .inr (2, 0))] [.inl (.ref 0), .inl (.ref 0)] [oX] = some (.inr (.inl (62, [.inl (.ref 0)], [.inl (.ref 0)]))) := rfl
  refine okn C kL_4 _ _ _ _ e4 _ _ Q none hX (S 62 [.inl (.ref 0)] [oX] none hX (isN_eq hX_ok)) (Nat.le_of_ble_eq_true rfl) (Nat.le_of_ble_eq_true rfl) ?_
  show Wc G ML.2.2.1 p l e room_1 s m #[Value.ref b] below meth c Q 7 [(0, .inr (2, 0))] [.inl (.ref 0)] hX 89 12599
  have e7 : (oSA 1 4 8) [(0, .inr (2, 0))] [.inl (.ref 0)] hX = some (.inl (8, [(1, .inl (.ref 0)), (0, .inr (2, 0))], [], hX, 0, 0)) := rfl
  refine okn C kL_7 _ _ _ _ e7 _ _ Q (Nat.le_of_ble_eq_true rfl) (Nat.le_of_ble_eq_true rfl) ?_
  have e8 : (oNO 5 20 [.null, .int 0, .null, .null, .int 0, .null, .int 0, .int 0, .int 0, .int 0, .int 0, .int 0, .null, .null, .null, .null, .null, .int 0, .null, .int 0] 11) [(1, .inl (.ref 0)), (0, .inr (2, 0))] [] hX = some (.inl (11, [(1, .inl (.ref 0)), (0, .inr (2, 0))], [.inl (.ref 89)], hX ++ [oY], 1, 20)) := by
    unfold oNO
    rw [appF_eq, hX_len]
    rfl
  refine okn C kL_8 _ _ _ _ e8 _ _ Q (Nat.le_of_ble_eq_true rfl) (Nat.le_of_ble_eq_true rfl) ?_
  generalize hZ : hX ++ [oY] = hZ'
  have e11 : (oS gDu 12) [(1, .inl (.ref 0)), (0, .inr (2, 0))] [.inl (.ref 89)] hZ' = some (.inl (12, [(1, .inl (.ref 0)), (0, .inr (2, 0))], [.inl (.ref 89), .inl (.ref 89)], hZ', 0, 0)) := rfl
  refine okn C kL_11 _ _ _ _ e11 _ _ Q (Nat.le_of_ble_eq_true rfl) (Nat.le_of_ble_eq_true rfl) ?_
  have e12 : (oCI 95 0) [(1, .inl (.ref 0)), (0, .inr (2, 0))] [.inl (.ref 89), .inl (.ref 89)] hZ' = some (.inr (.inl (95, [.inl (.ref 89)], [.inl (.ref 89)]))) := rfl
  refine okn C kL_12 _ _ _ _ e12 _ _ Q none hY (by rw [← hZ]; exact S 95 [.inl (.ref 89)] (hX ++ [oY]) none hY (isN_eq hY_ok)) (Nat.le_of_ble_eq_true rfl) (Nat.le_of_ble_eq_true rfl) ?_
  have e15 : (oSA 2 4 16) [(1, .inl (.ref 0)), (0, .inr (2, 0))] [.inl (.ref 89)] hY = some (.inl (16, lv16, [], hY, 0, 0)) := rfl
  exact okn C kL_15 _ _ _ _ e15 _ _ Q (Nat.le_of_ble_eq_true rfl) (Nat.le_of_ble_eq_true rfl) K
/-- the variables -/
def rho (i0 : Nat) (x x0 x2 x3 : Int32) (i : Nat) : Int32 := if i = i0 then x else if i = 8 then x0 else if i = 2 then x2 else if i = 5 then x3 else if i % 3 = 0 then -1 else 2147483647
theorem rho_big : ∀ B, B < 1000 → nI B ≤ (2147483647 : Int32) := by decide +kernel
theorem rho_ok {i0 : Nat} {x x0 x2 x3 : Int32} (h0 : i0 = 0 → x < 0) (h1 : ∀ B, B < 1000 → i0 = 3 * B + 1 → nI B ≤ x) (h2 : i0 = 0 ∨ i0 % 3 ≠ 0) : Rh (rho i0 x x0 x2 x3) := by
  refine ⟨fun i => ?_, fun B hB => ?_⟩
  · unfold rho
    by_cases hi : 3 * i = i0
    · rw [if_pos hi]
      exact h0 (by omega)
    · rw [if_neg hi, if_neg (by omega), if_neg (by omega), if_neg (by omega), if_pos (by omega)]
      decide
  · unfold rho
    by_cases hi : 3 * B + 1 = i0
    · rw [if_pos hi]
      exact h1 B hB hi.symm
    · rw [if_neg hi, if_neg (by omega), if_neg (by omega), if_neg (by omega), if_neg (by omega)]
      exact rho_big B hB
def Bk (k : Nat) : Nat := if k = 0 then 128 else if k = 3 then 5 else if k = 7 then 7 else if k = 10 then 5 else if k = 23 then 11 else 1
theorem ck_short : ∀ L, L < 4 → ckL L 0 [] = true
  | 0, _ => ck_s0
  | 1, _ => ck_s1
  | 2, _ => ck_s2
  | 3, _ => ck_s3
  | L + 4, h => absurd h (by omega)
theorem ck_all : ∀ k, k < 32 → ck4 (Bk k) k = true
  | 0, _ => ck_0
  | 1, _ => ck_1
  | 2, _ => ck_2
  | 3, _ => ck_3
  | 4, _ => ck_4
  | 5, _ => ck_5
  | 6, _ => ck_6
  | 7, _ => ck_7
  | 8, _ => ck_8
  | 9, _ => ck_9
  | 10, _ => ck_10
  | 11, _ => ck_11
  | 12, _ => ck_12
  | 13, _ => ck_13
  | 14, _ => ck_14
  | 15, _ => ck_15
  | 16, _ => ck_16
  | 17, _ => ck_17
  | 18, _ => ck_18
  | 19, _ => ck_19
  | 20, _ => ck_20
  | 21, _ => ck_21
  | 22, _ => ck_22
  | 23, _ => ck_23
  | 24, _ => ck_24
  | 25, _ => ck_25
  | 26, _ => ck_26
  | 27, _ => ck_27
  | 28, _ => ck_28
  | 29, _ => ck_29
  | 30, _ => ck_30
  | 31, _ => ck_31
  | k + 32, h => absurd h (by omega)
/-- what holds of the tables at the law's entry -/
theorem law_K {p : Program} {s : State} {m : MethodId} {meth : Method} {c : Code} {b L : Nat} {xs : Nat → Int32} (C0 : lw_At p s m meth c b L xs) : ∃ (D : va_G) (cI cJ cO : ClassId), ∀ ρ : Nat → Int32, Kx (s.heap.size, D, cI, cJ, cO, ρ, b) s := by
  obtain ⟨hx, hb, hr, hml, hown, hts, hX, hbl, hlocks, hgv⟩ := C0
  have htg : ∀ w ∈ tg, w.before #[Value.ref b] s = true := fun w hw => hts w (List.mem_filter.mp hw).1
  obtain ⟨c0, i0, k0⟩ := u_known (C := RX0) (T := TX0) (N := 19) (n := 19) htg cd_0.2.1 (htg _ cd_0.2.2.2.2.1)
  obtain ⟨c1, i1, k1⟩ := u_known (C := RX1) (T := TX1) (N := 2) (n := 2) htg cd_1.2.1 (htg _ cd_1.2.2.2.2.1)
  obtain ⟨c2, i2, k2⟩ := u_known (C := RX2) (T := TX2) (N := 3) (n := 3) htg cd_2.2.1 (htg _ cd_2.2.2.2.2.1)
  obtain ⟨c3, i3, k3⟩ := u_known (C := RX3) (T := TX3) (N := 7) (n := 7) htg cd_3.2.1 (htg _ cd_3.2.2.2.2.1)
  obtain ⟨c4, i4, k4⟩ := u_known (C := RX4) (T := TX4) (N := 9) (n := 9) htg cd_4.2.1 (htg _ cd_4.2.2.2.2.1)
  obtain ⟨c5, i5, k5⟩ := u_known (C := RX5) (T := TX5) (N := 20) (n := 20) htg cd_5.2.1 (htg _ cd_5.2.2.2.2.1)
  obtain ⟨cI, kI, mI, fI, gI, qI⟩ := Cond.arrayClass_spec (show (Cond.arrayClass .int).holds #[Value.ref b] s none s [] = true from htg _ w_123)
  obtain ⟨cJ, kJ, mJ, fJ, gJ, qJ⟩ := Cond.arrayClass_spec (show (Cond.arrayClass .long).holds #[Value.ref b] s none s [] = true from htg _ w_243)
  have hover : (Cond.arrayOver (.object RX0)).before #[Value.ref b] s = true := hts _ (List.mem_of_getElem? (i := 217) (by decide +kernel))
  obtain ⟨mO, cO, kO, f1, f2, f3, f4, f5⟩ := Cond.arrayOver_spec (show (Cond.arrayOver (.object RX0)).holds #[Value.ref b] s none s [] = true from hover)
  refine ⟨(fun k => if k = 0 then c0 else if k = 1 then c1 else if k = 2 then c2 else if k = 3 then c3 else if k = 4 then c4 else c5, fun k => if k = 0 then i0 else if k = 1 then i1 else if k = 2 then i2 else if k = 3 then i3 else if k = 4 then i4 else i5), cI, cJ, cO, fun ρ => ⟨⟨?_, ?_⟩, va_AO.of hover, ?_, ?_, ?_, ?_, ?_⟩⟩
  · intro k q hq
    match k, hq with
    | 0, hq => cases hq; exact k0
    | 1, hq => cases hq; exact k1
    | 2, hq => cases hq; exact k2
    | 3, hq => cases hq; exact k3
    | 4, hq => cases hq; exact k4
    | 5, hq => cases hq; exact k5
    | k + 6, hq => simp [vwCl] at hq
  · intro k q hq
    match k, hq with
    | 0, hq => cases hq; exact ⟨fun n z => ⟨fun k h => (by cases h), kI, gI, mI, qI⟩, fI⟩
    | 1, hq => cases hq; exact ⟨fun n z => ⟨fun k h => (by cases h), kJ, gJ, mJ, qJ⟩, fJ⟩
    | 2, hq => cases hq; exact ⟨fun n z => ⟨fun k h => (by cases h), kO, f3, mO, f4⟩, kO, mO, f3, f4, f1, f5⟩
    | k + 3, hq => simp [tT] at hq
  · exact va_Nw.of rfl (hts _ (List.mem_of_getElem? (i := 126) (by decide +kernel)))
  · exact va_Nw.of rfl (hts _ (List.mem_of_getElem? (i := 218) (by decide +kernel)))
  · exact va_Nw.of rfl (hts _ (List.mem_of_getElem? (i := 362) (by decide +kernel)))
  · exact va_Nw.of rfl (hts _ (List.mem_of_getElem? (i := 513) (by decide +kernel)))
  · exact va_Nw.of rfl (hts _ (List.mem_of_getElem? (i := 573) (by decide +kernel)))
set_option maxHeartbeats 4000000 in
theorem law_go {p : Program} {e : Env} {s : State} {m : MethodId} {below : List Frame} {meth : Method} {c : Code} (l : Launch) {b L : Nat} {xs : Nat → Int32} (C0 : lw_At p s m meth c b L xs) (ρ : Nat → Int32) (hρ : Rh ρ) (k : Nat) (sc : List aV) (hsc : ∀ (D : va_G) (cI cJ cO : ClassId) (j : Nat) (v : aV), sc[j]? = some v → j < L ∧ tx (s.heap.size, D, cI, cJ, cO, ρ, b) v = .int (xs j)) (hk : ρ 8 &&& 31 = nI k) (hck : ckL L k sc = true) : W p l e room_1 s m #[Value.ref b] below meth c s.heap [] 0 0 (lw_Z below #[Value.ref b] s) (entryFrame m ([Value.ref b] : List Value).toArray 4) := by
  obtain ⟨D, cI, cJ, cO, hKx⟩ := law_K C0
  obtain ⟨hx, hb, hr, hml, hown, hts, hX, hbl, hlocks, hgv⟩ := C0
  have htg : ∀ w ∈ tg, w.before #[Value.ref b] s = true := fun w hw => hts w (List.mem_filter.mp hw).1
  have C : LC (s.heap.size, D, cI, cJ, cO, ρ, b) 8 p room_1 s m #[Value.ref b] meth c L k sc :=
    ⟨⟨⟨hx, hb, hml, hown, htg⟩, ⟨hr, hlocks, fun h => absurd h (by decide), hρ⟩, hKx ρ, Nat.le_refl _, Nat.le_of_ble_eq_true rfl, Nat.le_of_ble_eq_true rfl⟩, rfl, hbl, xs, hX, hsc D cI cJ cO, fun v hv => by rw [hv]; exact hk⟩
  have hl := lv_entry ([.ref b]) (n := 4) (Nat.le_of_ble_eq_true rfl)
  rw [lg_entry_eq]
  exact law_0 C (law_16 C hck) s.heap [] _ ⟨fun k q h => by simp [tw] at h, rfl⟩ va_S.rf hl
set_option maxHeartbeats 4000000 in
/-- THE LAW, from its entry -/
theorem whole_start {p : Program} {e : Env} {s : State} {m : MethodId} {below : List Frame} {meth : Method} {c : Code} (l : Launch) (hflags : l.flags = flags0) {b L : Nat} {xs : Nat → Int32} (hL : L ≤ 4) (C0 : lw_At p s m meth c b L xs) : W p l e room_1 s m #[Value.ref b] below meth c s.heap [] 0 0 (lw_Z below #[Value.ref b] s) (entryFrame m ([Value.ref b] : List Value).toArray 4) := by
  by_cases h4 : L = 4
  · subst h4
    obtain ⟨k, hk, ek⟩ := pk_andE (xs 0) (m := 31) 5 (by decide)
    have hck := ck_all k hk
    unfold ck4 at hck
    simp only [Bool.and_eq_true, List.all_eq_true, List.mem_range] at hck
    obtain ⟨q1, q2, q3⟩ := hck
    have hB : Bk k < 1000 := by unfold Bk; split <;> (try split) <;> (try split) <;> (try split) <;> (try split) <;> omega
    have scan : ∀ (i0 : Nat) (v : aV), i0 ≠ 8 → i0 ≠ 2 → i0 ≠ 5 → (∀ (D : va_G) (cI cJ cO : ClassId), tx (s.heap.size, D, cI, cJ, cO, rho i0 (xs 1) (xs 0) (xs 2) (xs 3), b) v = .int (xs 1)) → ∀ (D : va_G) (cI cJ cO : ClassId) (j : Nat) (w : aV), (scv v)[j]? = some w → j < 4 ∧ tx (s.heap.size, D, cI, cJ, cO, rho i0 (xs 1) (xs 0) (xs 2) (xs 3), b) w = .int (xs j) := by
      intro i0 v n8 n2 n5 hv D cI cJ cO j w hw
      match j, hw with
      | 0, hw =>
        cases hw
        refine ⟨by omega, ?_⟩
        show Value.int (rho i0 (xs 1) (xs 0) (xs 2) (xs 3) 8) = _
        unfold rho
        rw [if_neg (Ne.symm n8), if_pos rfl]
      | 1, hw => cases hw; exact ⟨by omega, hv D cI cJ cO⟩
      | 2, hw =>
        cases hw
        refine ⟨by omega, ?_⟩
        show Value.int (rho i0 (xs 1) (xs 0) (xs 2) (xs 3) 2) = _
        unfold rho
        rw [if_neg (Ne.symm n2), if_neg (by decide), if_pos rfl]
      | 3, hw =>
        cases hw
        refine ⟨by omega, ?_⟩
        show Value.int (rho i0 (xs 1) (xs 0) (xs 2) (xs 3) 5) = _
        unfold rho
        rw [if_neg (Ne.symm n5), if_neg (by decide), if_neg (by decide), if_pos rfl]
      | j + 4, hw => simp [scv] at hw
    have h8 : ∀ i0 : Nat, i0 ≠ 8 → rho i0 (xs 1) (xs 0) (xs 2) (xs 3) 8 &&& 31 = nI k := by
      intro i0 n8
      unfold rho
      rw [if_neg (Ne.symm n8), if_pos rfl]
      exact ek
    by_cases hneg : xs 1 < 0
    · exact law_go l C0 (rho 0 (xs 1) (xs 0) (xs 2) (xs 3)) (rho_ok (fun _ => hneg) (fun B _ hb => absurd hb (by omega)) (Or.inl rfl)) k _ (scan 0 (.inr (0, 0)) (by decide) (by decide) (by decide) (fun D cI cJ cO => by show Value.int (rho 0 (xs 1) (xs 0) (xs 2) (xs 3) 0) = _; unfold rho; rw [if_pos rfl])) (h8 0 (by decide)) q1
    · obtain ⟨j, hj, ej⟩ := nI_of hneg
      by_cases hlt : j < Bk k
      · exact law_go l C0 (rho 11 (xs 1) (xs 0) (xs 2) (xs 3)) (rho_ok (fun h => absurd h (by decide)) (fun B _ hb => absurd hb (by omega)) (Or.inr (by decide))) k _ (scan 11 (.inl (.int (nI j))) (by decide) (by decide) (by decide) (fun D cI cJ cO => by rw [ej]; rfl)) (h8 11 (by decide)) (q3 j hlt)
      · exact law_go l C0 (rho (3 * Bk k + 1) (xs 1) (xs 0) (xs 2) (xs 3)) (rho_ok (fun h => absurd h (by omega)) (fun B _ hb => by
          have : B = Bk k := by omega
          subst this
          rw [ej]
          exact nI_le (by omega) hj) (Or.inr (by omega))) k _ (scan (3 * Bk k + 1) (.inr (0, 3 * Bk k + 1)) (by omega) (by omega) (by omega) (fun D cI cJ cO => by show Value.int (rho (3 * Bk k + 1) (xs 1) (xs 0) (xs 2) (xs 3) (3 * Bk k + 1)) = _; unfold rho; rw [if_pos rfl])) (h8 _ (by omega)) q2
  · have hL3 : L < 4 := by omega
    have hck := ck_short L hL3
    exact law_go l C0 (rho 11 0 0 0 0) (rho_ok (fun h => absurd h (by decide)) (fun B _ hb => absurd hb (by omega)) (Or.inr (by decide))) 0 [] (fun D cI cJ cO j v h => by simp at h) (by decide) hck
set_option maxHeartbeats 4000000 in
theorem lw_walk (l : Launch) (hflags : l.flags = flags0) (b : Addr) (xs : List Int32) : MetFree l x (headSpec (Jvm.Cond.code x code maxLocals ret :: tables_1) room_1) (lw_P b xs) (fun _ _ _ _ _ => True) lw_Q := by
  refine MetFree.of_bodyS (code := code) (maxLocals := maxLocals) (ret := ret) (by decide) ?_ ?_
  · intro args s m h hn
    obtain ⟨meth, c, h1, h2, h3, h4, h5, h6, -, -⟩ := Cond.code_spec hn (atoms_spec (ws := Jvm.Cond.code x code maxLocals ret :: tables_1) h _ List.mem_cons_self)
    exact ⟨meth, c, h1, h2, h3, h4, h5, h6⟩
  · intro p e s m args below meth c s₁ B hml0 hP _
    obtain ⟨rfl, hx, hbd, hgv⟩ := hP
    obtain ⟨scr, harrAt, hlist, hof, hsmall⟩ := hx
    obtain ⟨hcb, hkn, -, -⟩ := State.arrayAt?_spec harrAt
    have hown : s.vm.findClass R_law = some m.cls := findClass_of_methodNamed B.named
    have hts0 : ∀ c ∈ (Jvm.Cond.code x code maxLocals ret :: tables_1), c.before #[Value.ref b] s = true := atoms_spec (ws := Jvm.Cond.code x code maxLocals ret :: tables_1) B.pre
    have hts : ∀ w ∈ lw_tbl, w.before #[Value.ref b] s = true := k2_hts_sels lw_privs (fun w hw => hts0 w (List.mem_cons_of_mem _ hw)) lw_privs_ok
    have hml : c.maxLocals = 4 := B.maxLocals_eq (hts0 _ List.mem_cons_self)
    have X₀ : Stand p l e room_1 s m #[Value.ref b] below meth c s₁ [] 0 0 := Stand.of_body B
    have hh0 : s₁.heap = s.heap := by rw [B.state]; rfl
    have hsz : scr.slots.size = xs.length := by rw [← Array.length_toList, hlist, List.length_map]
    have hval : ∀ j : Nat, j < xs.length → scr.slots[j]? = some (.int (xs.getD j 0)) := fun j hj => by
      rw [← Array.getElem?_toList, hlist]
      simp [hj]
    have hbl : b < s.heap.size := (Array.getElem?_eq_some_iff.mp hcb).1
    have hX : va_X b xs.length (fun j => xs.getD j 0) s s.heap := ⟨scr, hcb, hof, hkn, hsz, hval⟩
    have K : W p l e room_1 s m #[Value.ref b] below meth c s₁.heap [] 0 0 (lw_Z below #[Value.ref b] s) (entryFrame m ([Value.ref b] : List Value).toArray 4) := by
      rw [hh0]
      exact whole_start l hflags hbd ⟨B.exec, B.bytes, B.returns, hml, hown, hts, hX, hbl, B.notSynchronized, hgv⟩
    obtain ⟨t, a1, o, b1, b2, b3⟩ := K s₁ rfl X₀
    exact ⟨t, o, a1, b1, b2, b3⟩
theorem lw_pre_spec {args : Array Value} {s : State} (h : (Jvm.Cond.and given_1 narrow_1).before args s = true) (hr : rest_1_c.before args s = true) : ∃ (b : Addr) (xs : List Int32), lw_P b xs args s := by
  have hs := flat_of_before _ h
  have hq := flat_of_before _ hr
  have hc : (Cond.count 1).before args s = true := hs _ (by decide +kernel)
  have harr : (Cond.arrayOf (.arg 0) .int).before args s = true := hs _ (by decide +kernel)
  have hle : (Cond.le (.length (.arg 0)) (.int 4)).before args s = true := hs _ (by decide +kernel)
  have hlen : (Cond.isInt (.length (.arg 0))).before args s = true := hq _ (by decide +kernel)
  have hall : (Cond.all (.arg 0) (.isInt (.elem (.arg 0) (.index 0)))).before args s = true := hq _ (by decide +kernel)
  obtain ⟨b, xs, hb, hx⟩ := State.ints_of_pre rfl harr hlen hall
  have hsm : xs.length < 2 ^ 31 := hx.choose_spec.2.2.2
  have hev : (Term.length (.arg 0)).eval args s none [] s = some (.int xs.length.toInt32) := hx.length_eval hb
  have hv := Cond.le_ints hev (show (Term.int 4).eval args s none [] s = some (.int 4) from rfl)
  have hd : xs.length.toInt32 ≤ 4 := by
    simpa [Cond.before, Cond.holds, hv] using hle
  have hN : xs.length ≤ 4 := (Int32.ofNat_le_ofNat hsm (by decide)).mp (show Int32.ofNat xs.length ≤ Int32.ofNat 4 from hd)
  exact ⟨b, xs, Cond.one_arg hc (show args[0]? = some (.ref b) from hb), hx, hN, h⟩
theorem lw_comes (l : Launch) (hflags : l.flags = flags0) : Comes l x (Jvm.Cond.code x code maxLocals ret :: tables_1) room_1 (fun tb e args s => Calls_1 tb e args s ∧ rest_1 tb e args s ∧ Pre_1 tb e args s)
    (fun _ _ args s o t => lw_Q args s o t) := by
  intro p e ha hc hk s m args below hf hfit hheap happ hpre
  obtain ⟨b, xs, hP⟩ := lw_pre_spec hpre.2.2 hpre.2.1
  obtain ⟨k, o, h1, h2, h3, hQ⟩ := lw_walk l hflags b xs p e ha hc hk s m args below hf ((Spec.applies_iff_loose hf).mp happ).1 hP trivial
  exact ⟨k, o, h1, h2, h3, hQ⟩
theorem lw_frame {s t : State} {o : Outcome} {args : Array Value} (h : Framed s o t [] 600000 7302250) :
    Framed s o t (fieldLocs frame_1_writes args s ++ arrayLocs frame_1_arrays args s ++ staticLocs frame_1_statics s) 600000 7302250 := h
theorem lw_limb (L : Cond) (hL : ∀ (args : Array Value) (s t : State), L.after args s (.returned (some (.int 1))) t = true) :
    ArmFor flags0 classFile x code maxLocals ret World_1 tables_1 room_1 Calls_1 rest_1 Pre_1
      (fun tb e a s o t => postC L tb e a s o t ∧ Framed s o t (fieldLocs frame_1_writes a s ++ arrayLocs frame_1_arrays a s ++ staticLocs frame_1_statics s) 600000 7302250) := by
  intro l hflags _ _ p e ha hc hk s m args below hf hfit hheap happ hpre
  obtain ⟨k, o, h1, h2, h3, rfl, hF⟩ := lw_comes l hflags p e ha hc hk s m args below hf hfit hheap happ hpre
  exact ⟨k, _, h1, h2, h3, hL args s _, lw_frame hF⟩
theorem i_vc : Claimed_1_1 ∧ Claimed_1_2 := ⟨lw_limb limb_1_1 (fun args s t => by simp [limb_1_1, Cond.after, Cond.holds, Cond.value]), lw_limb limb_1_2 (fun args s t => Cond.after_iff.mpr (by
  first | (rw [show limb_1_2 = Cond.eq .result (.int 1) from rfl, Cond.eq_ints (x := 1) (y := 1) rfl rfl]; simp; done) | (simp [limb_1_2, Cond.value, Term.eval]; done)))⟩
