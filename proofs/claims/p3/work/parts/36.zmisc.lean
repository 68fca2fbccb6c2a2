/-! THE CHECKER'S STEPS, part five: comparing, choosing, calling, answering -/
def tCm (n : Nat) : zT := fun _ s k => match s with
  | (l, y :: x :: r, hp, B, F, m) => zJ B x (fun _ _ => zJ B y (fun _ _ => frZ (y.2.2 - x.2.2) (fun d => frN (m + 1) (fun m' => k (.inl (n, (l, (0, m, 0) :: r, hp, (m, -1, 1) :: B, (2, m, x.2.1, y.2.1, d) :: F, m')))))))
  | _ => false
theorem lg_cmp3 (x y : Int64) : ((lg_cmp x y).toInt = -1 ∧ x.toInt < y.toInt) ∨ ((lg_cmp x y).toInt = 0 ∧ x.toInt = y.toInt) ∨ ((lg_cmp x y).toInt = 1 ∧ y.toInt < x.toInt) := by
  unfold lg_cmp
  by_cases h : x > y
  · rw [if_pos h]
    exact .inr (.inr ⟨rfl, Int64.lt_iff_toInt_lt.mp h⟩)
  · rw [if_neg h]
    by_cases e : x = y
    · rw [if_pos e, e]
      exact .inr (.inl ⟨rfl, rfl⟩)
    · rw [if_neg e]
      refine .inl ⟨rfl, ?_⟩
      have h1 : ¬ y.toInt < x.toInt := fun q => h (Int64.lt_iff_toInt_lt.mpr q)
      have h2 : x.toInt ≠ y.toInt := fun q => e (Int64.toInt_inj.mp q)
      omega
theorem d_Cm {n : Nat} : Sd (oS gCm n) (tCm n) := by
  intro K σ s lv st h H k hk
  obtain ⟨l, st0, hp, B, F, m⟩ := s
  unfold tCm at hk
  split at hk
  · rename_i l1 y x r hp1 B1 F1 m1 e
    cases e
    obtain ⟨a, b, hk, xx, ex, -, -, Tx⟩ := zJ_st H (cs_hd (cs_tl H.st)) hk
    obtain ⟨c, d, hk, yy, ey, -, -, Ty⟩ := zJ_st H (cs_hd H.st) hk
    rw [frZ_eq, frN_eq] at hk
    have q3 := lg_cmp3 xx yy
    have e1 := H.st σ ag.rf
    rw [cs_cons, cs_cons, ex, ey] at e1
    have lt2 : 2 ≤ m := (H σ ag.rf).2.2.2.2.1.2.2
    refine ⟨_, hk, upI σ m (lg_cmp xx yy).toInt, lv, .inl (.int (lg_cmp xx yy)) :: cs σ r, h, ?_, ?_, Nat.le_succ m, upI_ag _ _ _⟩
    · rw [e1]
      show oS gCm n lv (.inl (.long yy) :: .inl (.long xx) :: cs σ r) h = _
      unfold oS gCm
      dsimp only
      rw [frI_eq]
      rfl
    · intro τ hτ
      have hσ := (upI_ag σ m (lg_cmp xx yy).toInt).tr hτ (Nat.le_succ m)
      have G := H τ hσ
      have em : τ m = (lg_cmp xx yy).toInt := (hτ m (Nat.lt_succ_self m)).trans (upI_n _ _ _)
      have t1 := Tx τ hσ
      have t2 := Ty τ hσ
      refine ⟨⟨G.1.1, ?_⟩, G.2.1, ?_, hFs_cons ?_ G.2.2.2.1, ⟨G.2.2.2.2.1.1, G.2.2.2.2.1.2.1, Nat.le_succ_of_le lt2⟩, G.2.2.2.2.2⟩
      · rw [cs_cons, ← cs_tl (cs_tl H.st) τ hσ, cv_int (x := lg_cmp xx yy) rfl (by show τ m + 0 = _; omega)]
      · intro b' hb
        rcases List.mem_cons.mp hb with rfl | hb
        · show -1 ≤ τ m ∧ τ m ≤ 1
          omega
        · exact G.2.2.1 b' hb
      · show (τ m = -1 ∧ τ x.2.1 < τ y.2.1 + (y.2.2 - x.2.2)) ∨ (τ m = 0 ∧ τ x.2.1 = τ y.2.1 + (y.2.2 - x.2.2)) ∨ (τ m = 1 ∧ τ y.2.1 + (y.2.2 - x.2.2) < τ x.2.1)
        omega
  · cases hk
def tRm (n : Nat) : zT := fun _ s k => match s with
  | (l, y :: x :: r, hp, B, F, m) => zI B x (fun a _ => zI B y (fun c d => match ieq c d, ile 1 c, ile 0 a with
    | true, true, true => zN 0 B m 0 (c - 1) (fun v B m => k (.inl (n, (l, v :: r, hp, B, F, m))))
    | _, _, _ => false))
  | _ => false
theorem rem_ok (x y : Int32) (hx : 0 ≤ x.toInt) (hy : 1 ≤ y.toInt) : 0 ≤ (x - x / y * y).toInt ∧ (x - x / y * y).toInt ≤ y.toInt - 1 := by
  have lx := i32_hi x
  have dv : (x / y).toInt = x.toInt / y.toInt := by
    rw [Int32.toInt_div_of_ne_right x y (fun e => by rw [e] at hy; exact absurd hy (by decide)), Int.tdiv_eq_ediv_of_nonneg hx]
  have d0 : 0 ≤ x.toInt / y.toInt := Int.ediv_nonneg hx (by omega)
  have m0 := Int.emod_nonneg x.toInt (show y.toInt ≠ 0 by omega)
  have m1 := Int.emod_lt_of_pos x.toInt (show 0 < y.toInt by omega)
  have em := Int.mul_ediv_add_emod x.toInt y.toInt
  have p0 : 0 ≤ y.toInt * (x.toInt / y.toInt) := Int.mul_nonneg (by omega) d0
  have mm : (x / y * y).toInt = y.toInt * (x.toInt / y.toInt) := by
    have := Int32.toInt_mul (x / y) y
    rw [dv, Int.mul_comm] at this
    exact bm_fit this (by omega) (by omega)
  have ss : (x - x / y * y).toInt = x.toInt - y.toInt * (x.toInt / y.toInt) := by
    have := Int32.toInt_sub x (x / y * y)
    rw [mm] at this
    exact bm_fit this (by omega) (by omega)
  omega
theorem d_Rm {n : Nat} : Sd (oS gRm n) (tRm n) := by
  intro K σ s lv st h H k hk
  obtain ⟨l, st0, hp, B, F, m⟩ := s
  unfold tRm at hk
  split at hk
  · rename_i l1 y x r hp1 B1 F1 m1 e
    cases e
    obtain ⟨a, b, hk, xx, ex, x1, x2, -⟩ := zI_st H (cs_hd (cs_tl H.st)) hk
    obtain ⟨c, d, hk, yy, ey, y1, y2, -⟩ := zI_st H (cs_hd H.st) hk
    split at hk
    · rename_i q1 q2 q3
      have q1 := ieq_eq q1
      have q2 := ile_le q2
      have q3 := ile_le q3
      have o := rem_ok xx yy (by omega) (by omega)
      refine So.push (rc := cs σ r) (V := .int (xx - xx / yy * yy)) (VP.int H hk _ o.1 (by omega)) (cs_tl (cs_tl H.st)) ?_
      rw [H.st σ ag.rf, cs_cons, cs_cons, ex, ey]
      have ny : decide (yy = 0) = false := decide_eq_false (fun e => by
        rw [e] at y1
        have : (0 : Int32).toInt = 0 := rfl
        omega)
      show oS gRm n lv (.inl (.int yy) :: .inl (.int xx) :: cs σ r) h = _
      unfold oS gRm
      dsimp only
      rw [ny]
      dsimp only
      rw [frI_eq]
      rfl
    · cases hk
  · cases hk
def zct (v : zV) : Nat := match v.1 with
  | 1 => 2
  | _ => 1
def zcat : List zV → Nat
  | [] => 0
  | v :: t => zct v + zcat t
theorem ac_cv (σ : Nat → Int) (v : zV) : ac (.inl (cv σ v)) = zct v := by
  obtain ⟨t, i, a⟩ := v
  match t with
  | 0 => rfl
  | 1 => rfl
  | 2 => rfl
  | t + 3 => rfl
theorem zcat_ok (σ : Nat → Int) : ∀ st : List zV, catS (cs σ st) = zcat st
  | [] => rfl
  | v :: t => by
    have := zcat_ok σ t
    unfold catS at this ⊢
    rw [cs_cons, List.map_cons, List.sum_cons, this, ac_cv]
    rfl
def tMM (g : Int → Int → Int) (n : Nat) : zT := fun _ s k => match s with
  | (l, y :: x :: r, hp, B, F, m) => match Nat.ble (zcat r) 8 with
    | true => zI B x (fun a b => zI B y (fun c d => zN 0 B m (g a c) (g b d) (fun v B m => k (.inl (n, (l, v :: r, hp, B, F, m))))))
    | false => false
  | _ => false
theorem imin_b {a b c d : Int} (h1 : a ≤ c) (h2 : b ≤ d) : imin a b ≤ imin c d := by
  unfold imin
  cases p : ile a b <;> cases q : ile c d <;> dsimp only <;> first | (have := ile_f p; have := ile_f q; omega) | (have := ile_le p; have := ile_f q; omega) | (have := ile_f p; have := ile_le q; omega) | omega
theorem imax_b {a b c d : Int} (h1 : a ≤ c) (h2 : b ≤ d) : imax a b ≤ imax c d := by
  unfold imax
  cases p : ile a b <;> cases q : ile c d <;> dsimp only <;> first | (have := ile_f p; have := ile_f q; omega) | (have := ile_le p; have := ile_f q; omega) | (have := ile_f p; have := ile_le q; omega) | omega
theorem d_Mn {n : Nat} : Sd (oMn n) (tMM imin n) := by
  intro K σ s lv st h H k hk
  obtain ⟨l, st0, hp, B, F, m⟩ := s
  unfold tMM at hk
  split at hk
  · rename_i l1 y x r hp1 B1 F1 m1 e
    cases e
    split at hk
    · rename_i hc
      obtain ⟨a, b, hk, xx, ex, x1, x2, -⟩ := zI_st H (cs_hd (cs_tl H.st)) hk
      obtain ⟨c, d, hk, yy, ey, y1, y2, -⟩ := zI_st H (cs_hd H.st) hk
      have e2 : (if yy < xx then yy else xx).toInt = imin xx.toInt yy.toInt := by
        unfold imin
        by_cases q : yy < xx
        · have q' := Int32.lt_iff_toInt_lt.mp q
          rw [if_pos q]
          cases p : ile xx.toInt yy.toInt with
          | true => have := ile_le p; omega
          | false => rfl
        · have q' : ¬ yy.toInt < xx.toInt := fun z => q (Int32.lt_iff_toInt_lt.mpr z)
          rw [if_neg q, le_ile (by omega)]
      refine So.push (rc := cs σ r) (V := .int (if yy < xx then yy else xx)) (VP.int H hk _ (by rw [e2]; exact imin_b x1 y1) (by rw [e2]; exact imin_b x2 y2)) (cs_tl (cs_tl H.st)) ?_
      rw [H.st σ ag.rf, cs_cons, cs_cons, ex, ey]
      unfold oMn
      dsimp only
      rw [zcat_ok, hc]
      dsimp only
      rw [frI_eq]
      rfl
    · cases hk
  · cases hk
theorem d_Mx {n : Nat} : Sd (oMx n) (tMM imax n) := by
  intro K σ s lv st h H k hk
  obtain ⟨l, st0, hp, B, F, m⟩ := s
  unfold tMM at hk
  split at hk
  · rename_i l1 y x r hp1 B1 F1 m1 e
    cases e
    split at hk
    · rename_i hc
      obtain ⟨a, b, hk, xx, ex, x1, x2, -⟩ := zI_st H (cs_hd (cs_tl H.st)) hk
      obtain ⟨c, d, hk, yy, ey, y1, y2, -⟩ := zI_st H (cs_hd H.st) hk
      have e2 : (if xx < yy then yy else xx).toInt = imax xx.toInt yy.toInt := by
        unfold imax
        by_cases q : xx < yy
        · have q' := Int32.lt_iff_toInt_lt.mp q
          rw [if_pos q, le_ile (by omega)]
        · have q' : ¬ xx.toInt < yy.toInt := fun z => q (Int32.lt_iff_toInt_lt.mpr z)
          rw [if_neg q]
          cases p : ile xx.toInt yy.toInt with
          | true => have := ile_le p; dsimp only; omega
          | false => rfl
      refine So.push (rc := cs σ r) (V := .int (if xx < yy then yy else xx)) (VP.int H hk _ (by rw [e2]; exact imax_b x1 y1) (by rw [e2]; exact imax_b x2 y2)) (cs_tl (cs_tl H.st)) ?_
      rw [H.st σ ag.rf, cs_cons, cs_cons, ex, ey]
      unfold oMx
      dsimp only
      rw [zcat_ok, hc]
      dsimp only
      rw [frI_eq]
      rfl
    · cases hk
  · cases hk
def tNu (t n : Nat) : zT := fun _ s k => match s with
  | (l, v :: r, hp, B, F, m) => match v.1 with
    | 0 => false
    | 1 => false
    | 2 => k (.inl (n, (l, r, hp, B, F, m)))
    | _ => k (.inl (t, (l, r, hp, B, F, m)))
  | _ => false
theorem d_Nu {t n : Nat} : Sd (oNu t n) (tNu t n) := by
  intro K σ s lv st h H k hk
  obtain ⟨l, st0, hp, B, F, m⟩ := s
  unfold tNu at hk
  split at hk
  · rename_i l1 v r hp1 B1 F1 m1 e
    cases e
    have e1 := H.st σ ag.rf
    rw [cs_cons] at e1
    obtain ⟨t', i, a⟩ := v
    match t', hk, e1, H with
    | 0, hk, _, _ => cases hk
    | 1, hk, _, _ => cases hk
    | 2, hk, e1, H => exact So.go (sc' := cs σ r) H hk (by rw [e1]; rfl) (fun τ hτ q e _ _ => ⟨q, cs_tl H.st τ hτ⟩)
    | t' + 3, hk, e1, H => exact So.go (sc' := cs σ r) H hk (by rw [e1]; rfl) (fun τ hτ q e _ _ => ⟨q, cs_tl H.st τ hτ⟩)
  · cases hk
-- answers
def tRt (kd : Nat) : zT := fun _ s k => match s with
  | (l, [v], hp, B, F, m) => match Nat.beq v.1 kd with
    | true => k (.inr (.inr (some v, (l, [v], hp, B, F, m))))
    | false => false
  | _ => false
theorem d_Rt0 {op : aO} {kd : Nat} (ho : ∀ (lv : aL) (h : aH) (σ : Nat → Int) (v : zV), v.1 = kd → op lv [.inl (cv σ v)] h = some (.inr (.inr (some (cv σ v))))) : Sd op (tRt kd) := by
  intro K σ s lv st h H k hk
  obtain ⟨l, st0, hp, B, F, m⟩ := s
  unfold tRt at hk
  split at hk
  · rename_i l1 v hp1 B1 F1 m1 e
    cases e
    split at hk
    · rename_i hb
      refine ⟨_, hk, ?_, rfl, fun τ hτ => by show some (cv τ v) = some (cv σ v); rw [cs_hd H.st τ hτ]⟩
      rw [H.st σ ag.rf]
      exact ho lv h σ v (Nat.eq_of_beq_eq_true hb)
    · cases hk
  · cases hk
theorem d_RI : Sd oRI (tRt 0) := d_Rt0 (fun lv h σ v hd => by
  obtain ⟨t, j, a⟩ := v
  cases hd
  rfl)
theorem d_RL : Sd oRL (tRt 1) := d_Rt0 (fun lv h σ v hd => by
  obtain ⟨t, j, a⟩ := v
  cases hd
  rfl)
def tRZ : zT := fun _ s k => match s with
  | (l, [v], hp, B, F, m) => zI B v (fun lo hi => match ile 0 lo, ile hi 1 with
    | true, true => k (.inr (.inr (some v, (l, [v], hp, B, F, m))))
    | _, _ => false)
  | _ => false
theorem d_RZ : Sd oRZ tRZ := by
  intro K σ s lv st h H k hk
  obtain ⟨l, st0, hp, B, F, m⟩ := s
  unfold tRZ at hk
  split at hk
  · rename_i l1 v hp1 B1 F1 m1 e
    cases e
    obtain ⟨lo, hi, hk, xx, ex, x1, x2, -⟩ := zI_st H (cs_hd H.st) hk
    split at hk
    · rename_i q1 q2
      have q1 := ile_le q1
      have q2 := ile_le q2
      refine ⟨_, hk, ?_, rfl, fun τ hτ => by show some (cv τ v) = some (cv σ v); rw [cs_hd H.st τ hτ]⟩
      rw [H.st σ ag.rf]
      show oRZ lv [.inl (cv σ v)] h = some (.inr (.inr (some (cv σ v))))
      rw [ex]
      have hx : xx = 0 ∨ xx = 1 := by
        rcases (show xx.toInt = 0 ∨ xx.toInt = 1 by omega) with z | z
        · exact .inl (Int32.toInt_inj.mp z)
        · exact .inr (Int32.toInt_inj.mp z)
      rcases hx with rfl | rfl <;> rfl
    · cases hk
  · cases hk
def tRV : zT := fun _ s k => match s with
  | (l, [], hp, B, F, m) => k (.inr (.inr (none, (l, [], hp, B, F, m))))
  | _ => false
theorem d_RV : Sd oRV tRV := by
  intro K σ s lv st h H k hk
  obtain ⟨l, st0, hp, B, F, m⟩ := s
  unfold tRV at hk
  split at hk
  · rename_i l1 hp1 B1 F1 m1 e
    cases e
    refine ⟨_, hk, ?_, rfl, fun τ hτ => rfl⟩
    rw [H.st σ ag.rf]
    rfl
  · cases hk
-- calls
def zpop : Nat → List zV → List zV → (List zV → List zV → Bool) → Bool
  | 0, st, acc, k => k acc st
  | _ + 1, [], _, _ => false
  | n + 1, v :: t, acc, k => zpop n t (v :: acc) k
theorem zpop_ok (σ : Nat → Int) : ∀ (n : Nat) (st acc : List zV) (k : List zV → List zV → Bool), zpop n st acc k = true → ∃ as r, k as r = true ∧ popN n (cs σ st) (cs σ acc) = some (cs σ as, cs σ r) ∧ acc.reverse ++ st = as.reverse ++ r
  | 0, st, acc, k, h => ⟨acc, st, h, rfl, rfl⟩
  | n + 1, [], acc, k, h => by cases h
  | n + 1, v :: t, acc, k, h => by
    obtain ⟨as, r, a, b, c⟩ := zpop_ok σ n t (v :: acc) k h
    refine ⟨as, r, a, b, ?_⟩
    simp only [List.reverse_cons, List.append_assoc, List.singleton_append] at c
    exact c
theorem cs_sub {n : Nat} {σ : Nat → Int} : ∀ {st as r : List zV}, (∀ τ, ag n σ τ → cs σ st = cs τ st) → st = as.reverse ++ r → ∀ τ, ag n σ τ → cs τ as = cs σ as ∧ cs σ r = cs τ r := by
  intro st as r h e τ hτ
  have q := h τ hτ
  rw [e] at q
  unfold cs at q ⊢
  rw [List.map_append, List.map_append] at q
  have ql := List.append_inj q (by simp)
  refine ⟨?_, ql.2⟩
  have := congrArg List.reverse ql.1
  rw [List.map_reverse, List.map_reverse, List.reverse_reverse, List.reverse_reverse] at this
  exact this.symm
def tCS (mid n : Nat) : zT := fun _ s k => match s with
  | (l, st, hp, B, F, m) => zpop n st [] (fun as r => match Nat.ble (zcat r) 8 with
    | true => k (.inr (.inl (mid, as, (l, r, hp, B, F, m))))
    | false => false)
theorem d_CS {mid n : Nat} : Sd (oCS mid n) (tCS mid n) := by
  intro K σ s lv st h H k hk
  obtain ⟨l, st0, hp, B, F, m⟩ := s
  obtain ⟨as, r, hk, hpop, hr⟩ := zpop_ok σ n st0 [] _ hk
  split at hk
  · rename_i hc
    have sub := cs_sub (n := m) (σ := σ) (st := st0) (as := as) (r := r) (fun τ hτ => (H.st σ ag.rf).symm.trans (H.st τ hτ)) hr
    refine ⟨_, hk, ?_, ms_st H (fun τ hτ _ _ _ => (sub τ hτ).2), rfl, fun τ hτ => (sub τ hτ).1⟩
    show oCS mid n lv st h = some (.inr (.inl (mid, cs σ as, cs σ r)))
    unfold oCS
    rw [H.st σ ag.rf, show popN n (cs σ st0) [] = some (cs σ as, cs σ r) from hpop]
    dsimp only
    rw [zcat_ok, hc]
  · cases hk
def tCV (ci mid n : Nat) : zT := fun _ s k => match s with
  | (l, st, hp, B, F, m) => zpop n st [] (fun as r => match r with
    | (2, b, o) :: r' => match zg hp b with
      | some (.inr (.inr (.inr (.inr (cj, _))))) => match Nat.beq cj ci, Nat.ble (zcat r') 8 with
        | true, true => k (.inr (.inl (mid, (2, b, o) :: as, (l, r', hp, B, F, m))))
        | _, _ => false
      | _ => false
    | _ => false)
theorem mc_obj {σ : Nat → Int} {ci : Nat} {Fs : List zE} {x : aE} (h : mc σ (.inr (.inr (.inr (.inr (ci, Fs))))) x) : ∃ fs, x = .inr (.inr (.inr (ci, fs))) ∧ Fs.length = fs.length ∧ ∀ (i : Nat) (e : zE) (y : Value), Fs[i]? = some e → fs[i]? = some y → me σ e y := by
  rcases x with l | l | l | ⟨cj, fs⟩
  · exact h.elim
  · exact h.elim
  · exact h.elim
  · obtain ⟨rfl, a, b⟩ := h
    exact ⟨fs, rfl, a, b⟩
theorem d_CV {ci mid n : Nat} : Sd (oCV ci mid n) (tCV ci mid n) := by
  intro K σ s lv st h H k hk
  obtain ⟨l, st0, hp, B, F, m⟩ := s
  obtain ⟨as, r, hk, hpop, hr⟩ := zpop_ok σ n st0 [] _ hk
  split at hk
  · rename_i b o r'
    split at hk
    · rename_i cj Fs hg
      split at hk
      · rename_i q1 q2
        have sub := cs_sub (n := m) (σ := σ) (st := st0) (as := as) (r := (2, b, o) :: r') (fun τ hτ => (H.st σ ag.rf).symm.trans (H.st τ hτ)) hr
        obtain ⟨x, hx, mx⟩ := (H σ ag.rf).2.1 b _ hg
        obtain ⟨fs, rfl, -, -⟩ := mc_obj mx
        refine ⟨_, hk, ?_, ms_st H (fun τ hτ _ _ _ => cs_tl (fun τ hτ => (sub τ hτ).2) τ hτ), rfl, fun τ hτ => ?_⟩
        · show oCV ci mid n lv st h = some (.inr (.inl (mid, cs σ ((2, b, o) :: as), cs σ r')))
          unfold oCV
          rw [H.st σ ag.rf, show popN n (cs σ st0) [] = some (cs σ as, cs σ ((2, b, o) :: r')) from hpop]
          show (match h[b]? with
            | some (.inr (.inr (.inr (cj, _)))) => match Nat.beq cj ci, Nat.ble (catS (cs σ r')) 8 with
              | true, true => (some (.inr (.inl (mid, .inl (.ref b) :: cs σ as, cs σ r'))) : Option aX)
              | _, _ => none
            | _ => none) = _
          rw [hx]
          dsimp only
          rw [zcat_ok, q1, q2]
          rfl
        · show .inl (cv τ (2, b, o)) :: cs τ as = .inl (cv σ (2, b, o)) :: cs σ as
          rw [(sub τ hτ).1]
          rfl
      · cases hk
    · cases hk
  · cases hk
