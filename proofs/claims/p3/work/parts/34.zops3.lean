/-! THE CHECKER'S STEPS, part three: locals, longs, jumps -/
theorem ms.lv {K : zK} {σ : Nat → Int} {l : List (Nat × zV)} {st : List zV} {hp : List (Nat × zC)} {B : zB} {F : List zF} {n : Nat} {lv : aL} {sc : List aV} {h : aH} (H : ms K σ (l, st, hp, B, F, n) lv sc h) {i : Nat} {v : zV} (hv : lz l i = some v) : ∀ τ, ag n σ τ → lk lv i = some (.inl (cv τ v)) := fun τ hτ => (H τ hτ).1.1 i v hv
theorem ms.lvc {K : zK} {σ : Nat → Int} {l : List (Nat × zV)} {st : List zV} {hp : List (Nat × zC)} {B : zB} {F : List zF} {n : Nat} {lv : aL} {sc : List aV} {h : aH} (H : ms K σ (l, st, hp, B, F, n) lv sc h) {i : Nat} {v : zV} (hv : lz l i = some v) : ∀ τ, ag n σ τ → cv τ v = cv σ v := fun τ hτ => by
  have e := (H.lv hv τ hτ).symm.trans (H.lv hv σ ag.rf)
  exact Sum.inl.inj (Option.some.inj e)
/-- a local goes on the stack; its kind -/
def tLd (kd i n : Nat) : zT := fun _ s k => match s with
  | (l, st, hp, B, F, m) => match lz l i with
    | some v => match Nat.beq v.1 kd with
      | true => k (.inl (n, (l, v :: st, hp, B, F, m)))
      | false => false
    | none => false
theorem d_Ld0 {op : aO} {kd i n : Nat} (ho : ∀ (lv : aL) (st : List aV) (h : aH) (σ : Nat → Int) (v : zV), lk lv i = some (.inl (cv σ v)) → v.1 = kd → op lv st h = nx n lv (.inl (cv σ v) :: st) h) : Sd op (tLd kd i n) := by
  intro K σ s lv st h H k hk
  obtain ⟨l, st0, hp, B, F, m⟩ := s
  unfold tLd at hk
  dsimp only at hk
  split at hk
  · rename_i v hv
    split at hk
    · rename_i hb
      refine So.go H hk (ho lv st h σ v (H.lv hv σ ag.rf) (Nat.eq_of_beq_eq_true hb)) (fun τ hτ a e _ _ => ⟨a, ?_⟩)
      rw [e, cs_cons, H.lvc hv τ hτ]
    · cases hk
  · cases hk
theorem d_LI {i n : Nat} : Sd (oLI i n) (tLd 0 i n) := d_Ld0 (fun lv st h σ v hv hd => by
  obtain ⟨t, j, a⟩ := v
  cases hd
  unfold oLI
  rw [hv]
  rfl)
theorem d_LL {i n : Nat} : Sd (oLL i n) (tLd 1 i n) := d_Ld0 (fun lv st h σ v hv hd => by
  obtain ⟨t, j, a⟩ := v
  cases hd
  unfold oLL
  rw [hv]
  rfl)
theorem d_LA {i n : Nat} : Sd (oLA i n) (tLd 2 i n) := d_Ld0 (fun lv st h σ v hv hd => by
  obtain ⟨t, j, a⟩ := v
  cases hd
  unfold oLA
  rw [hv]
  rfl)
/-- and from the stack into a local -/
def tSt (w : Bool) (kd i n : Nat) : zT := fun _ s k => match s with
  | (l, v :: r, hp, B, F, m) => match Nat.beq v.1 kd with
    | true => zstF w l i (fun l' => k (.inl (n, ((i, v) :: l', r, hp, B, F, m))))
    | false => false
  | _ => false
theorem d_St0 {op : aO} {w : Bool} {kd i n : Nat} (ho : ∀ (lv : aL) (r : List aV) (h : aH) (σ : Nat → Int) (v : zV), v.1 = kd → op lv (.inl (cv σ v) :: r) h = nx n ((i, .inl (cv σ v)) :: lv.filter (if w = true then st2 i else st1 i)) r h) : Sd op (tSt w kd i n) := by
  intro K σ s lv st h H k hk
  obtain ⟨l, st0, hp, B, F, m⟩ := s
  unfold tSt at hk
  split at hk
  · rename_i l1 v r hp1 B1 F1 m1 e
    cases e
    split at hk
    · rename_i hb
      rw [zstF_eq] at hk
      have e1 := H.st σ ag.rf
      rw [cs_cons] at e1
      refine So.go (sc' := cs σ r) H hk (by rw [e1]; exact ho lv (cs σ r) h σ v (Nat.eq_of_beq_eq_true hb)) (fun τ hτ a e _ _ => ⟨?_, cs_tl H.st τ hτ⟩)
      rw [← cs_hd H.st τ hτ]
      exact mL_st a rfl
    · cases hk
  · cases hk
theorem d_SI {i nL n : Nat} (hi : Nat.blt i nL = true) : Sd (oSI i nL n) (tSt false 0 i n) := d_St0 (fun lv r h σ v hd => by
  obtain ⟨t, j, a⟩ := v
  cases hd
  unfold oSI
  dsimp only [cv]
  rw [hi]
  dsimp only
  rw [fltF_eq]
  rfl)
theorem d_SA {i nL n : Nat} (hi : Nat.blt i nL = true) : Sd (oSA i nL n) (tSt false 2 i n) := d_St0 (fun lv r h σ v hd => by
  obtain ⟨t, j, a⟩ := v
  cases hd
  unfold oSA
  dsimp only [cv]
  rw [hi]
  dsimp only
  rw [fltF_eq]
  rfl)
theorem d_SL {i nL n : Nat} (hi : Nat.blt (i + 1) nL = true) : Sd (oSL i nL n) (tSt true 1 i n) := d_St0 (fun lv r h σ v hd => by
  obtain ⟨t, j, a⟩ := v
  cases hd
  unfold oSL
  dsimp only [cv]
  rw [hi]
  dsimp only
  rw [fltF_eq]
  rfl)
def tIn (i : Nat) (c : Int) (n : Nat) : zT := fun _ s k => match s with
  | (l, st, hp, B, F, m) => match lz l i with
    | some v => zadd B m v (0, 1, c) (fun b B m => zstF false l i (fun l' => k (.inl (n, ((i, b) :: l', st, hp, B, F, m)))))
    | none => false
theorem d_In {i nL n : Nat} {x : Int32} {c : Int} (hc : x.toInt = c) (hi : Nat.blt i nL = true) : Sd (oInc i x nL n) (tIn i c n) := by
  intro K σ s lv st h H k hk
  obtain ⟨l, st0, hp, B, F, m⟩ := s
  unfold tIn at hk
  dsimp only at hk
  split at hk
  · rename_i v hv
    have ec : ∀ τ : Nat → Int, τ 1 = 0 → cv τ (0, 1, c) = .int x := fun τ h1 => cv_int rfl (by show τ 1 + c = x.toInt; omega)
    obtain ⟨xx, yy, ex, ey, b, B', m', σ', a1, a2, a3, a4, a5⟩ := VP.add H (H.lvc hv) (fun τ hτ => by rw [ec τ (H τ hτ).2.2.2.2.1.1, ec σ (H σ ag.rf).2.2.2.2.1.1]) hk
    rw [ec σ (H σ ag.rf).2.2.2.2.1.1] at ey
    cases ey
    dsimp only at a1
    rw [zstF_eq] at a1
    refine ⟨_, a1, σ', (i, .inl (.int (xx + x))) :: lv.filter (st1 i), st, h, ?_, ms_ls a2 (fun τ hτ a e _ _ => ⟨?_, e⟩), a4, a5⟩
    · have := H.lv hv σ ag.rf
      rw [ex] at this
      unfold oInc
      rw [this]
      dsimp only
      rw [hi]
      dsimp only
      rw [frI_eq, fltF_eq]
      rfl
    · rw [← a3 τ hτ]
      exact mL_st a rfl
  · cases hk
def tGo (t : Nat) : zT := fun _ s k => k (.inl (t, s))
theorem d_Go {t : Nat} : Sd (oGo t) (tGo t) := by
  intro K σ s lv st h H k hk
  exact ⟨_, hk, σ, lv, st, h, rfl, H, Nat.le_refl _, ag.rf⟩
def tDu (n : Nat) : zT := fun _ s k => match s with
  | (l, v :: r, hp, B, F, m) => match v.1 with
    | 0 => k (.inl (n, (l, v :: v :: r, hp, B, F, m)))
    | 2 => k (.inl (n, (l, v :: v :: r, hp, B, F, m)))
    | _ => false
  | _ => false
theorem d_Du {n : Nat} : Sd (oS gDu n) (tDu n) := by
  intro K σ s lv st h H k hk
  obtain ⟨l, st0, hp, B, F, m⟩ := s
  unfold tDu at hk
  split at hk
  · rename_i l1 v r hp1 B1 F1 m1 e
    cases e
    have e1 := H.st σ ag.rf
    rw [cs_cons] at e1
    have key : (v.1 = 0 ∨ v.1 = 2) → oS gDu n lv st h = some (.inl (n, lv, .inl (cv σ v) :: .inl (cv σ v) :: cs σ r, h, 0, 0)) := by
      obtain ⟨t, j, a⟩ := v
      rw [e1]
      rintro (q | q) <;> cases q <;> rfl
    have fin : (v.1 = 0 ∨ v.1 = 2) → k (.inl (n, (l, v :: v :: r, hp, B, F, m))) = true → ∃ R, k R = true ∧ So K σ (l, v :: r, hp, B, F, m) (oS gDu n) lv st h R := fun q hk => So.go H hk (key q) (fun τ hτ a e _ _ => ⟨a, by rw [cs_cons, cs_cons, cs_hd H.st τ hτ, cs_tl H.st τ hτ]⟩)
    split at hk
    · rename_i q; exact fin (.inl q) hk
    · rename_i q; exact fin (.inr q) hk
    · cases hk
  · cases hk
def tD2 (n : Nat) : zT := fun _ s k => match s with
  | (l, v :: u :: r, hp, B, F, m) => match v.1, u.1 with
    | 0, 0 => k (.inl (n, (l, v :: u :: v :: u :: r, hp, B, F, m)))
    | 0, 2 => k (.inl (n, (l, v :: u :: v :: u :: r, hp, B, F, m)))
    | _, _ => false
  | _ => false
theorem d_D2 {n : Nat} : Sd (oS gD2 n) (tD2 n) := by
  intro K σ s lv st h H k hk
  obtain ⟨l, st0, hp, B, F, m⟩ := s
  unfold tD2 at hk
  split at hk
  · rename_i l1 v u r hp1 B1 F1 m1 e
    cases e
    have e1 := H.st σ ag.rf
    rw [cs_cons, cs_cons] at e1
    have key : v.1 = 0 → (u.1 = 0 ∨ u.1 = 2) → oS gD2 n lv st h = some (.inl (n, lv, .inl (cv σ v) :: .inl (cv σ u) :: .inl (cv σ v) :: .inl (cv σ u) :: cs σ r, h, 0, 0)) := by
      obtain ⟨t, j, a⟩ := v
      obtain ⟨t', j', a'⟩ := u
      rw [e1]
      intro q
      cases q
      rintro (q | q) <;> cases q <;> rfl
    have fin : v.1 = 0 → (u.1 = 0 ∨ u.1 = 2) → k (.inl (n, (l, v :: u :: v :: u :: r, hp, B, F, m))) = true → ∃ R, k R = true ∧ So K σ (l, v :: u :: r, hp, B, F, m) (oS gD2 n) lv st h R := fun q0 q hk => So.go H hk (key q0 q) (fun τ hτ a e _ _ => ⟨a, by rw [cs_cons, cs_cons, cs_cons, cs_cons, cs_hd H.st τ hτ, cs_hd (cs_tl H.st) τ hτ, cs_tl (cs_tl H.st) τ hτ]⟩)
    split at hk
    · rename_i q0 q; exact fin q0 (.inl q) hk
    · rename_i q0 q; exact fin q0 (.inr q) hk
    · cases hk
  · cases hk
-- longs
theorem i64_lo (x : Int64) : -9223372036854775808 ≤ x.toInt := Int64.le_toInt x
theorem i64_hi (x : Int64) : x.toInt ≤ 9223372036854775807 := by have := Int64.toInt_lt x; omega
def tL2 (n : Nat) : zT := fun _ s k => match s with
  | (l, y :: x :: r, hp, B, F, m) => zJ B x (fun _ _ => zJ B y (fun _ _ => zN 1 B m (-9223372036854775808) 9223372036854775807 (fun v B m => k (.inl (n, (l, v :: r, hp, B, F, m))))))
  | _ => false
theorem d_L2 {f : Int64 → Int64 → Int64} {n : Nat} : Sd (oS (gL2 f) n) (tL2 n) := by
  intro K σ s lv st h H k hk
  obtain ⟨l, st0, hp, B, F, m⟩ := s
  unfold tL2 at hk
  split at hk
  · rename_i l1 y x r hp1 B1 F1 m1 e
    cases e
    obtain ⟨a, b, hk, xx, ex, -⟩ := zJ_st H (cs_hd (cs_tl H.st)) hk
    obtain ⟨a, b, hk, yy, ey, -⟩ := zJ_st H (cs_hd H.st) hk
    refine So.push (rc := cs σ r) (V := .long (f xx yy)) (VP.long H hk _ (i64_lo _) (i64_hi _)) (cs_tl (cs_tl H.st)) ?_
    rw [H.st σ ag.rf, cs_cons, cs_cons, ex, ey]
    show oS (gL2 f) n lv (.inl (.long yy) :: .inl (.long xx) :: cs σ r) h = _
    unfold oS gL2
    dsimp only
    rw [frL_eq]
    rfl
  · cases hk
def tLS (n : Nat) : zT := fun _ s k => match s with
  | (l, y :: x :: r, hp, B, F, m) => zJ B x (fun _ _ => zI B y (fun _ _ => zN 1 B m (-9223372036854775808) 9223372036854775807 (fun v B m => k (.inl (n, (l, v :: r, hp, B, F, m))))))
  | _ => false
theorem d_LS {f : Int64 → Int32 → Int64} {n : Nat} : Sd (oS (gLS f) n) (tLS n) := by
  intro K σ s lv st h H k hk
  obtain ⟨l, st0, hp, B, F, m⟩ := s
  unfold tLS at hk
  split at hk
  · rename_i l1 y x r hp1 B1 F1 m1 e
    cases e
    obtain ⟨a, b, hk, xx, ex, -⟩ := zJ_st H (cs_hd (cs_tl H.st)) hk
    obtain ⟨a, b, hk, yy, ey, -⟩ := zI_st H (cs_hd H.st) hk
    refine So.push (rc := cs σ r) (V := .long (f xx yy)) (VP.long H hk _ (i64_lo _) (i64_hi _)) (cs_tl (cs_tl H.st)) ?_
    rw [H.st σ ag.rf, cs_cons, cs_cons, ex, ey]
    show oS (gLS f) n lv (.inl (.int yy) :: .inl (.long xx) :: cs σ r) h = _
    unfold oS gLS
    dsimp only
    rw [frL_eq]
    rfl
  · cases hk
/-- and with a mask: the second is a number, 0 or more -/
def tLa (n : Nat) : zT := fun _ s k => match s with
  | (l, y :: x :: r, hp, B, F, m) => zJ B x (fun _ _ => zJ B y (fun c d => match ile 0 c with
    | true => zN 1 B m 0 d (fun v B m => k (.inl (n, (l, v :: r, hp, B, F, m))))
    | false => zJ B x (fun a b => match ile 0 a with
      | true => zN 1 B m 0 b (fun v B m => k (.inl (n, (l, v :: r, hp, B, F, m))))
      | false => zN 1 B m (-9223372036854775808) 9223372036854775807 (fun v B m => k (.inl (n, (l, v :: r, hp, B, F, m)))))))
  | _ => false
theorem i64_cond (x : Int64) : x.toInt = if 2 * x.toBitVec.toNat < 18446744073709551616 then (x.toBitVec.toNat : Int) else (x.toBitVec.toNat : Int) - 18446744073709551616 := BitVec.toInt_eq_toNat_cond x.toBitVec
theorem i64_lt (x : Int64) : x.toBitVec.toNat < 18446744073709551616 := x.toBitVec.isLt
theorem land_le (x y : Int64) (h : 0 ≤ y.toInt) : 0 ≤ (f_land x y).toInt ∧ (f_land x y).toInt ≤ y.toInt := by
  have e : (f_land x y).toBitVec.toNat = x.toBitVec.toNat &&& y.toBitVec.toNat := by
    show (x &&& y).toBitVec.toNat = _
    rw [Int64.toBitVec_and, BitVec.toNat_and]
  have l : x.toBitVec.toNat &&& y.toBitVec.toNat ≤ y.toBitVec.toNat := Nat.and_le_right
  have c1 := i64_cond y
  have c2 := i64_cond (f_land x y)
  have := i64_lt y
  rw [e] at c2
  split at c1
  · split at c2 <;> omega
  · omega
theorem land_le1 (x y : Int64) (h : 0 ≤ x.toInt) : 0 ≤ (f_land x y).toInt ∧ (f_land x y).toInt ≤ x.toInt := by
  have := land_le y x h
  rwa [show f_land y x = f_land x y by show y &&& x = x &&& y; rw [← Int64.toBitVec_inj, Int64.toBitVec_and, Int64.toBitVec_and, BitVec.and_comm]] at this
theorem d_La {n : Nat} : Sd (oS (gL2 f_land) n) (tLa n) := by
  intro K σ s lv st h H k hk
  obtain ⟨l, st0, hp, B, F, m⟩ := s
  unfold tLa at hk
  split at hk
  · rename_i l1 y x r hp1 B1 F1 m1 e
    cases e
    obtain ⟨a, b, hk, xx, ex, -⟩ := zJ_st H (cs_hd (cs_tl H.st)) hk
    obtain ⟨c, d, hk, yy, ey, y1, y2, -⟩ := zJ_st H (cs_hd H.st) hk
    have P : VP K σ l (y :: x :: r) hp F m lv st h (.long (f_land xx yy)) (fun v B m => k (.inl (n, (l, v :: r, hp, B, F, m)))) := by
      split at hk
      · rename_i hc
        have hc := ile_le hc
        have := land_le xx yy (by omega)
        exact VP.long H hk _ this.1 (by omega)
      · obtain ⟨a', b', hk, xx', ex', x1, x2, -⟩ := zJ_st H (cs_hd (cs_tl H.st)) hk
        rw [ex] at ex'
        cases ex'
        split at hk
        · rename_i hc
          have hc := ile_le hc
          have := land_le1 xx yy (by omega)
          exact VP.long H hk _ this.1 (by omega)
        · exact VP.long H hk _ (i64_lo _) (i64_hi _)
    refine So.push (rc := cs σ r) P (cs_tl (cs_tl H.st)) ?_
    rw [H.st σ ag.rf, cs_cons, cs_cons, ex, ey]
    show oS (gL2 f_land) n lv (.inl (.long yy) :: .inl (.long xx) :: cs σ r) h = _
    unfold oS gL2
    dsimp only
    rw [frL_eq]
    rfl
  · cases hk
def tIL (n : Nat) : zT := fun _ s k => match s with
  | (l, (0, i, a) :: r, hp, B, F, m) => zI B (0, i, a) (fun _ _ => k (.inl (n, (l, (1, i, a) :: r, hp, B, F, m))))
  | _ => false
theorem d_IL {n : Nat} : Sd (oS gIL n) (tIL n) := by
  intro K σ s lv st h H k hk
  obtain ⟨l, st0, hp, B, F, m⟩ := s
  unfold tIL at hk
  split at hk
  · rename_i l1 i a r hp1 B1 F1 m1 e
    cases e
    obtain ⟨c, d, hk, xx, ex, -, -, Tx⟩ := zI_st H (cs_hd H.st) hk
    have e1 := H.st σ ag.rf
    rw [cs_cons, ex] at e1
    refine So.go (sc' := .inl (.long xx.toInt64) :: cs σ r) H hk ?_ (fun τ hτ q e _ _ => ⟨q, ?_⟩)
    · rw [e1]
      show oS gIL n lv (.inl (.int xx) :: cs σ r) h = _
      unfold oS gIL
      dsimp only
      rw [frL_eq]
      rfl
    · rw [cs_cons, ← cs_tl H.st τ hτ, cv_long (x := xx.toInt64) rfl (by rw [Int32.toInt_toInt64]; exact Tx τ hτ)]
  · cases hk
def tLIn (n : Nat) : zT := fun _ s k => match s with
  | (l, (1, i, a) :: r, hp, B, F, m) => zJ B (1, i, a) (fun lo hi => match ile (-2147483648) lo, ile hi 2147483647 with
    | true, true => k (.inl (n, (l, (0, i, a) :: r, hp, B, F, m)))
    | _, _ => zN 0 B m (-2147483648) 2147483647 (fun v B m => k (.inl (n, (l, v :: r, hp, B, F, m)))))
  | _ => false
theorem d_LIn {n : Nat} : Sd (oS gLI n) (tLIn n) := by
  intro K σ s lv st h H k hk
  obtain ⟨l, st0, hp, B, F, m⟩ := s
  unfold tLIn at hk
  split at hk
  · rename_i l1 i a r hp1 B1 F1 m1 e
    cases e
    obtain ⟨lo, hi, hk, xx, ex, x1, x2, Tx⟩ := zJ_st H (cs_hd H.st) hk
    have e1 := H.st σ ag.rf
    rw [cs_cons, ex] at e1
    have ho : oS gLI n lv st h = some (.inl (n, lv, .inl (.int xx.toInt32) :: cs σ r, h, 0, 0)) := by
      rw [e1]
      unfold oS gLI
      dsimp only
      rw [frI_eq]
      rfl
    split at hk
    · rename_i q1 q2
      have q1 := ile_le q1
      have q2 := ile_le q2
      have e2 : xx.toInt32.toInt = xx.toInt := bm_fit (Int64.toInt_toInt32 xx) (by omega) (by omega)
      refine So.go H hk ho (fun τ hτ q e _ _ => ⟨q, ?_⟩)
      rw [cs_cons, ← cs_tl H.st τ hτ, cv_int (x := xx.toInt32) rfl (by rw [e2]; exact Tx τ hτ)]
    · exact So.push (VP.int H hk _ (i32_lo _) (i32_hi _)) (cs_tl H.st) ho
  · cases hk
