/-! THE CHECKER'S STEPS, part two: sums, locals, longs -/
def zNp (B : zB) (m : Nat) (p : Int × Int) (k : zV → zB → Nat → Bool) : Bool := match p with
  | (lo, hi) => zN 0 B m lo hi k
def zft (B : zB) (v : zV) : Bool := zI B v (fun _ _ => true)
def zadd (B : zB) (m : Nat) (x y : zV) (k : zV → zB → Nat → Bool) : Bool := zI B x (fun a b => zI B y (fun c d => match Nat.beq y.2.1 1 with
  | true => frZ (x.2.2 + y.2.2) (fun e => match zft B (0, x.2.1, e) with
    | true => k (0, x.2.1, e) B m
    | false => zNp B m (g_add a b c d) k)
  | false => match Nat.beq x.2.1 1 with
    | true => frZ (x.2.2 + y.2.2) (fun e => match zft B (0, y.2.1, e) with
      | true => k (0, y.2.1, e) B m
      | false => zNp B m (g_add a b c d) k)
    | false => zNp B m (g_add a b c d) k))
def zsub (B : zB) (m : Nat) (x y : zV) (k : zV → zB → Nat → Bool) : Bool := zI B x (fun a b => zI B y (fun c d => match Nat.beq y.2.1 1 with
  | true => frZ (x.2.2 - y.2.2) (fun e => match zft B (0, x.2.1, e) with
    | true => k (0, x.2.1, e) B m
    | false => zNp B m (g_sub a b c d) k)
  | false => match Nat.beq x.2.1 y.2.1 with
    | true => frZ (x.2.2 - y.2.2) (fun e => match zft B (0, 1, e) with
      | true => k (0, 1, e) B m
      | false => zNp B m (g_sub a b c d) k)
    | false => zNp B m (g_sub a b c d) k))
theorem zft_ok {B : zB} {v : zV} (h : zft B v = true) {σ : Nat → Int} (hB : mB σ B) (h1 : σ 1 = 0) : -2147483648 ≤ σ v.2.1 + v.2.2 ∧ σ v.2.1 + v.2.2 ≤ 2147483647 := by
  obtain ⟨lo, hi, -, a, b, H⟩ := zI_ok h
  obtain ⟨x, -, e, c, d⟩ := H σ hB h1
  omega
theorem bm_fit {x : Int32} {z : Int} (hx : x.toInt = z.bmod 4294967296) (h1 : -2147483648 ≤ z) (h2 : z ≤ 2147483647) : x.toInt = z := by
  rw [hx]
  exact Int.bmod_eq_of_le (by omega) (by omega)
/-- what is known of an int that was there -/
theorem zI_st {K : zK} {σ : Nat → Int} {l : List (Nat × zV)} {st : List zV} {hp : List (Nat × zC)} {B : zB} {F : List zF} {n : Nat} {lv : aL} {sc : List aV} {h : aH} (H : ms K σ (l, st, hp, B, F, n) lv sc h) {x : zV} (hx : ∀ τ, ag n σ τ → cv τ x = cv σ x) {k : Int → Int → Bool} (hk : zI B x k = true) : ∃ lo hi, k lo hi = true ∧ ∃ xx : Int32, cv σ x = .int xx ∧ lo ≤ xx.toInt ∧ xx.toInt ≤ hi ∧ ∀ τ, ag n σ τ → τ x.2.1 + x.2.2 = xx.toInt := by
  obtain ⟨a, b, hk, -, -, Hx⟩ := zI_ok hk
  have G := H σ ag.rf
  obtain ⟨xx, ex, -, x1, x2⟩ := Hx σ G.2.2.1 G.2.2.2.2.1.1
  refine ⟨a, b, hk, xx, ex, x1, x2, fun τ hτ => ?_⟩
  have G' := H τ hτ
  obtain ⟨x', e', i', -, -⟩ := Hx τ G'.2.2.1 G'.2.2.2.2.1.1
  have := (hx τ hτ).trans ex
  rw [e'] at this
  cases this
  exact i'.symm
theorem zJ_st {K : zK} {σ : Nat → Int} {l : List (Nat × zV)} {st : List zV} {hp : List (Nat × zC)} {B : zB} {F : List zF} {n : Nat} {lv : aL} {sc : List aV} {h : aH} (H : ms K σ (l, st, hp, B, F, n) lv sc h) {x : zV} (hx : ∀ τ, ag n σ τ → cv τ x = cv σ x) {k : Int → Int → Bool} (hk : zJ B x k = true) : ∃ lo hi, k lo hi = true ∧ ∃ xx : Int64, cv σ x = .long xx ∧ lo ≤ xx.toInt ∧ xx.toInt ≤ hi ∧ ∀ τ, ag n σ τ → τ x.2.1 + x.2.2 = xx.toInt := by
  obtain ⟨a, b, hk, -, -, Hx⟩ := zJ_ok hk
  have G := H σ ag.rf
  obtain ⟨xx, ex, -, x1, x2⟩ := Hx σ G.2.2.1 G.2.2.2.2.1.1
  refine ⟨a, b, hk, xx, ex, x1, x2, fun τ hτ => ?_⟩
  have G' := H τ hτ
  obtain ⟨x', e', i', -, -⟩ := Hx τ G'.2.2.1 G'.2.2.2.2.1.1
  have := (hx τ hτ).trans ex
  rw [e'] at this
  cases this
  exact i'.symm
theorem VP.add {K : zK} {σ : Nat → Int} {l : List (Nat × zV)} {st : List zV} {hp : List (Nat × zC)} {B : zB} {F : List zF} {n : Nat} {lv : aL} {sc : List aV} {h : aH} (H : ms K σ (l, st, hp, B, F, n) lv sc h) {x y : zV} (hx : ∀ τ, ag n σ τ → cv τ x = cv σ x) (hy : ∀ τ, ag n σ τ → cv τ y = cv σ y) {k : zV → zB → Nat → Bool} (hk : zadd B n x y k = true) : ∃ xx yy : Int32, cv σ x = .int xx ∧ cv σ y = .int yy ∧ VP K σ l st hp F n lv sc h (.int (xx + yy)) k := by
  obtain ⟨a, b, hk, xx, ex, x1, x2, Tx⟩ := zI_st H hx hk
  obtain ⟨c, d, hk, yy, ey, y1, y2, Ty⟩ := zI_st H hy hk
  refine ⟨xx, yy, ex, ey, ?_⟩
  have gen : zNp B n (g_add a b c d) k = true → VP K σ l st hp F n lv sc h (.int (xx + yy)) k := fun q => by
    have o := g_add_ok a b c d xx yy x1 x2 y1 y2
    exact VP.int H q _ o.1 o.2
  have af : ∀ (i : Nat) (e : Int), zft B (0, i, e) = true → (∀ τ, ag n σ τ → τ i + e = xx.toInt + yy.toInt) → k (0, i, e) B n = true → VP K σ l st hp F n lv sc h (.int (xx + yy)) k := fun i e q1 q2 q3 => by
    refine VP.same H q3 (fun τ hτ => cv_int rfl ?_)
    have G := H τ hτ
    have f := zft_ok q1 G.2.2.1 G.2.2.2.2.1.1
    have t := q2 τ hτ
    have bm := bm_fit (Int32.toInt_add xx yy) (by dsimp only at f; omega) (by dsimp only at f; omega)
    show τ i + e = (xx + yy).toInt
    omega
  split at hk
  · rename_i hb
    have hb := Nat.eq_of_beq_eq_true hb
    rw [frZ_eq] at hk
    split at hk
    · rename_i q
      refine af _ _ q (fun τ hτ => ?_) hk
      have t1 := Tx τ hτ
      have t2 := Ty τ hτ
      rw [hb, (H τ hτ).2.2.2.2.1.1] at t2
      omega
    · exact gen hk
  · split at hk
    · rename_i hb
      have hb := Nat.eq_of_beq_eq_true hb
      rw [frZ_eq] at hk
      split at hk
      · rename_i q
        refine af _ _ q (fun τ hτ => ?_) hk
        have t1 := Tx τ hτ
        have t2 := Ty τ hτ
        rw [hb, (H τ hτ).2.2.2.2.1.1] at t1
        omega
      · exact gen hk
    · exact gen hk
theorem VP.sub {K : zK} {σ : Nat → Int} {l : List (Nat × zV)} {st : List zV} {hp : List (Nat × zC)} {B : zB} {F : List zF} {n : Nat} {lv : aL} {sc : List aV} {h : aH} (H : ms K σ (l, st, hp, B, F, n) lv sc h) {x y : zV} (hx : ∀ τ, ag n σ τ → cv τ x = cv σ x) (hy : ∀ τ, ag n σ τ → cv τ y = cv σ y) {k : zV → zB → Nat → Bool} (hk : zsub B n x y k = true) : ∃ xx yy : Int32, cv σ x = .int xx ∧ cv σ y = .int yy ∧ VP K σ l st hp F n lv sc h (.int (xx - yy)) k := by
  obtain ⟨a, b, hk, xx, ex, x1, x2, Tx⟩ := zI_st H hx hk
  obtain ⟨c, d, hk, yy, ey, y1, y2, Ty⟩ := zI_st H hy hk
  refine ⟨xx, yy, ex, ey, ?_⟩
  have gen : zNp B n (g_sub a b c d) k = true → VP K σ l st hp F n lv sc h (.int (xx - yy)) k := fun q => by
    have o := g_sub_ok a b c d xx yy x1 x2 y1 y2
    exact VP.int H q _ o.1 o.2
  have af : ∀ (i : Nat) (e : Int), zft B (0, i, e) = true → (∀ τ, ag n σ τ → τ i + e = xx.toInt - yy.toInt) → k (0, i, e) B n = true → VP K σ l st hp F n lv sc h (.int (xx - yy)) k := fun i e q1 q2 q3 => by
    refine VP.same H q3 (fun τ hτ => cv_int rfl ?_)
    have G := H τ hτ
    have f := zft_ok q1 G.2.2.1 G.2.2.2.2.1.1
    have t := q2 τ hτ
    have bm := bm_fit (Int32.toInt_sub xx yy) (by dsimp only at f; omega) (by dsimp only at f; omega)
    show τ i + e = (xx - yy).toInt
    omega
  split at hk
  · rename_i hb
    have hb := Nat.eq_of_beq_eq_true hb
    rw [frZ_eq] at hk
    split at hk
    · rename_i q
      refine af _ _ q (fun τ hτ => ?_) hk
      have t1 := Tx τ hτ
      have t2 := Ty τ hτ
      rw [hb, (H τ hτ).2.2.2.2.1.1] at t2
      omega
    · exact gen hk
  · split at hk
    · rename_i hb
      have hb := Nat.eq_of_beq_eq_true hb
      rw [frZ_eq] at hk
      split at hk
      · rename_i q
        refine af _ _ q (fun τ hτ => ?_) hk
        have t1 := Tx τ hτ
        have t2 := Ty τ hτ
        have o := (H τ hτ).2.2.2.2.1.1
        rw [hb] at t1
        omega
      · exact gen hk
    · exact gen hk
def tAd (n : Nat) : zT := fun _ s k => match s with
  | (l, y :: x :: r, hp, B, F, m) => zadd B m x y (fun v B m => k (.inl (n, (l, v :: r, hp, B, F, m))))
  | _ => false
theorem d_Ad {n : Nat} : Sd (oS (gI2 f_iadd) n) (tAd n) := by
  intro K σ s lv st h H k hk
  obtain ⟨l, st0, hp, B, F, m⟩ := s
  unfold tAd at hk
  split at hk
  · rename_i l1 y x r hp1 B1 F1 m1 e
    cases e
    obtain ⟨xx, yy, ex, ey, P⟩ := VP.add H (cs_hd (cs_tl H.st)) (cs_hd H.st) hk
    refine So.push (rc := cs σ r) P (cs_tl (cs_tl H.st)) ?_
    rw [H.st σ ag.rf, cs_cons, cs_cons, ex, ey]
    show oS (gI2 f_iadd) n lv (.inl (.int yy) :: .inl (.int xx) :: cs σ r) h = _
    unfold oS gI2
    dsimp only
    rw [frI_eq]
    rfl
  · cases hk
def tSb (n : Nat) : zT := fun _ s k => match s with
  | (l, y :: x :: r, hp, B, F, m) => zsub B m x y (fun v B m => k (.inl (n, (l, v :: r, hp, B, F, m))))
  | _ => false
theorem d_Sb {n : Nat} : Sd (oS (gI2 f_isub) n) (tSb n) := by
  intro K σ s lv st h H k hk
  obtain ⟨l, st0, hp, B, F, m⟩ := s
  unfold tSb at hk
  split at hk
  · rename_i l1 y x r hp1 B1 F1 m1 e
    cases e
    obtain ⟨xx, yy, ex, ey, P⟩ := VP.sub H (cs_hd (cs_tl H.st)) (cs_hd H.st) hk
    refine So.push (rc := cs σ r) P (cs_tl (cs_tl H.st)) ?_
    rw [H.st σ ag.rf, cs_cons, cs_cons, ex, ey]
    show oS (gI2 f_isub) n lv (.inl (.int yy) :: .inl (.int xx) :: cs σ r) h = _
    unfold oS gI2
    dsimp only
    rw [frI_eq]
    rfl
  · cases hk
-- locals
def zbad (l : List (Nat × zV)) : Nat → Bool
  | 0 => false
  | j + 1 => match lz l j with
    | some (1, _, _) => true
    | _ => false
def zkk (w bad : Bool) (i j : Nat) : Bool := match Nat.beq j i with
  | true => false
  | false => match w, Nat.beq j (i + 1) with
    | true, true => false
    | _, _ => match bad, Nat.beq (j + 1) i with
      | true, true => false
      | _, _ => true
def zstF {β : Type} (w : Bool) (l : List (Nat × zV)) (i : Nat) (k : List (Nat × zV) → β) : β := match zbad l i with
  | true => fltF (fun q => zkk w true i q.1) l k
  | false => fltF (fun q => zkk w false i q.1) l k
theorem zstF_eq {β : Type} (w : Bool) (l : List (Nat × zV)) (i : Nat) (k : List (Nat × zV) → β) : zstF w l i k = k (l.filter (fun q => zkk w (zbad l i) i q.1)) := by
  unfold zstF
  cases zbad l i <;> exact fltF_eq _ _ _
theorem lz_flt {P : Nat → Bool} : ∀ (l : List (Nat × zV)) (j : Nat) (v : zV), lz (l.filter (fun q => P q.1)) j = some v → lz l j = some v ∧ P j = true
  | [], j, v, h => by cases h
  | q :: t, j, v, h => by
    rw [List.filter_cons] at h
    rw [lz]
    cases hb : Nat.beq q.1 j with
    | true =>
      have hq := Nat.eq_of_beq_eq_true hb
      cases hP : P q.1 with
      | true =>
        rw [hP] at h
        rw [if_pos rfl, lz, hb] at h
        exact ⟨h, by rw [← hq]; exact hP⟩
      | false =>
        rw [hP, if_neg (by simp)] at h
        have := (lz_flt t j v h).2
        rw [← hq, hP] at this
        cases this
    | false =>
      cases hP : P q.1 with
      | true =>
        rw [hP] at h
        rw [if_pos rfl, lz, hb] at h
        exact lz_flt t j v h
      | false =>
        rw [hP, if_neg (by simp)] at h
        exact lz_flt t j v h
theorem lk_flt {p : Nat × aV → Bool} : ∀ (lv : aL) (j : Nat) (u : aV), lk lv j = some u → p (j, u) = true → lk (lv.filter p) j = some u
  | [], j, u, h, _ => by cases h
  | q :: t, j, u, h, hp => by
    rw [lk] at h
    rw [List.filter_cons]
    cases hb : Nat.beq q.1 j with
    | true =>
      rw [hb] at h
      cases h
      have hq := Nat.eq_of_beq_eq_true hb
      have : p q = true := by rw [← hq] at hp; exact hp
      rw [if_pos this, lk, hb]
    | false =>
      rw [hb] at h
      split
      · rw [lk, hb]
        exact lk_flt t j u h hp
      · exact lk_flt t j u h hp
theorem mL_st {σ : Nat → Int} {l : List (Nat × zV)} {lv : aL} (H : mL σ l lv) {w : Bool} {i : Nat} {v : zV} {p : Nat × aV → Bool} (hp : p = if w = true then st2 i else st1 i) : mL σ ((i, v) :: l.filter (fun q => zkk w (zbad l i) i q.1)) ((i, .inl (cv σ v)) :: lv.filter p) := by
  intro j u hj
  rw [lz] at hj
  rw [lk]
  cases hb : Nat.beq i j with
  | true =>
    rw [hb] at hj
    cases hj
    rfl
  | false =>
    rw [hb] at hj
    obtain ⟨h1, h2⟩ := lz_flt _ _ _ hj
    refine lk_flt lv j _ (H j u h1) ?_
    have nij : ¬ j = i := fun e => by rw [e] at hb; simp at hb
    have cat : j + 1 = i → ac (.inl (cv σ u)) ≠ 2 := by
      intro e
      subst e
      unfold zkk at h2
      have e1 : Nat.beq j (j + 1) = false := by
        cases hc : Nat.beq j (j + 1) with
        | false => rfl
        | true => have := Nat.eq_of_beq_eq_true hc; omega
      rw [e1] at h2
      dsimp only at h2
      have e2 : zbad l (j + 1) = false := by
        cases hc : zbad l (j + 1) with
        | false => rfl
        | true =>
          rw [hc] at h2
          split at h2
          · cases h2
          · split at h2
            · cases h2
            · rename_i q
              exact absurd (show Nat.beq (j + 1) (j + 1) = true by simp) (fun z => q rfl z)
      have e2 : (match lz l j with
        | some (1, _, _) => true
        | _ => false) = false := e2
      rw [h1] at e2
      obtain ⟨t, i', a⟩ := u
      match t, e2 with
      | 0, _ => show (1 : Nat) ≠ 2; decide
      | 2, _ => show (1 : Nat) ≠ 2; decide
      | t + 3, _ => show (1 : Nat) ≠ 2; decide
    subst hp
    have c1 : (j == i) = false := by simp [nij]
    have c3 : (j + 1 == i && ac (.inl (cv σ u)) == 2) = false := by
      cases hc : (j + 1 == i) with
      | false => rfl
      | true =>
        have := cat (by simpa using hc)
        simp [this]
    cases w with
    | false =>
      rw [if_neg (by simp)]
      show (!(j == i) && !(j + 1 == i && ac (.inl (cv σ u)) == 2)) = true
      rw [c1, c3]
      rfl
    | true =>
      rw [if_pos rfl]
      have nij1 : ¬ j = i + 1 := by
        intro e
        unfold zkk at h2
        rw [show Nat.beq j i = false by cases hc : Nat.beq j i with
          | false => rfl
          | true => exact absurd (Nat.eq_of_beq_eq_true hc) nij] at h2
        dsimp only at h2
        rw [e, show Nat.beq (i + 1) (i + 1) = true by simp] at h2
        cases h2
      have c2 : (j == i + 1) = false := by simp [nij1]
      show (!(j == i) && (!(j == i + 1) && !(j + 1 == i && ac (.inl (cv σ u)) == 2))) = true
      rw [c1, c2, c3]
      rfl
