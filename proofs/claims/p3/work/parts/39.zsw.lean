/-! THE CHECKER'S STEPS, part eight: by cases of a number -/
def zaa : List Nat → Int → (Int → Nat → Bool) → Bool
  | [], _, _ => true
  | t :: L, c, g => match g c t with
    | true => frZ (c + 1) (fun c => zaa L c g)
    | false => false
theorem zaa_ok : ∀ (L : List Nat) (c : Int) (g : Int → Nat → Bool), zaa L c g = true → ∀ (i t : Nat), L[i]? = some t → g (c + i) t = true
  | [], c, g, _, i, t, h => by simp at h
  | t0 :: L, c, g, hz, i, t, h => by
    rw [zaa] at hz
    split at hz
    · rename_i q
      rw [frZ_eq] at hz
      match i, h with
      | 0, h => cases h; rw [show c + ((0 : Nat) : Int) = c by omega]; exact q
      | i + 1, h =>
        have := zaa_ok L (c + 1) g hz i t h
        rwa [show c + 1 + (i : Int) = c + ((i + 1 : Nat) : Int) by omega] at this
    · cases hz
def tAA (n : Nat) : zT := fun _ s k => match s with
  | (l, j :: (2, p, _) :: r, hp, B, F, m) => zI B j (fun lo hi => match zg hp p with
    | some (.inr (.inr (.inr (.inl L)))) => match ile 0 lo, ile (hi + 1) (.ofNat L.length) with
      | true, true => zaa L 0 (fun c t => zrf 2 B F j.2.1 j.2.2 1 c (fun B F => k (.inl (n, (l, (2, t, 0) :: r, hp, B, F, m)))))
      | _, _ => false
    | _ => false)
  | _ => false
theorem mc_refs {σ : Nat → Int} {L : List Nat} {x : aE} (h : mc σ (.inr (.inr (.inr (.inl L)))) x) : x = .inr (.inr (.inl (L.map some))) := by
  rcases x with l | l | l | x
  · exact h.elim
  · exact h.elim
  · rw [show l = L.map some from h]
  · exact h.elim
theorem d_AA {n : Nat} : Sd (oAA n) (tAA n) := by
  intro K σ s lv st h H k hk
  obtain ⟨l, st0, hp, B, F, m⟩ := s
  unfold tAA at hk
  split at hk
  · rename_i l1 j p o r hp1 B1 F1 m1 e
    cases e
    obtain ⟨lo, hi, hk, jj, ej, j1, j2, Tj⟩ := zI_st H (cs_hd H.st) hk
    have e1 := H.st σ ag.rf
    rw [cs_cons, cs_cons, ej] at e1
    have e1 : st = .inl (.int jj) :: .inl (.ref p) :: cs σ r := e1
    split at hk
    · rename_i L hg
      split at hk
      · rename_i q0 q1
        have q0 := ile_le q0
        have q1 : hi + 1 ≤ (L.length : Int) := ile_le q1
        obtain ⟨x, hx, mx⟩ := H.hp σ ag.rf p _ hg
        have mx := mc_refs mx
        subst mx
        have li : jj.toInt.toNat < L.length := by omega
        have hz := zaa_ok L 0 _ hk _ _ (List.getElem?_eq_getElem li)
        obtain ⟨B', F', hk, hb⟩ := zrf_ok hz (P := ag m σ) (fun τ hτ => ⟨(H.bf τ hτ).1, (H.bf τ hτ).2.1, (H.bf τ hτ).2.2, by
          rw [Tj τ hτ, (H.bf τ hτ).2.2]
          show jj.toInt = 0 + (0 + ((jj.toInt.toNat : Nat) : Int))
          omega⟩) σ ag.rf
        refine ⟨_, hk, σ, lv, .inl (.ref (L[jj.toInt.toNat])) :: cs σ r, h, ?_, ms_bf H hb (fun τ hτ => by rw [cs_cons, cs_tl (cs_tl H.st) τ hτ]; rfl), Nat.le_refl _, ag.rf⟩
        rw [e1]
        unfold oAA
        dsimp only
        rw [hx]
        dsimp only
        rw [nneg (by omega)]
        dsimp only
        rw [show (L.map some)[jj.toNatClampNeg]? = some (some (L[jj.toInt.toNat])) by
          show (L.map some)[jj.toInt.toNat]? = _
          rw [List.getElem?_map, List.getElem?_eq_getElem li]
          rfl]
        rfl
      · cases hk
    · cases hk
  · cases hk
def tTb (ts : List Nat) (dt : Nat) : zT := fun _ s k => match s with
  | (l, x :: r, hp, B, F, m) => zI B x (fun _ _ => match zrf 0 B F x.2.1 x.2.2 1 0 (fun B F => k (.inl (dt, (l, r, hp, B, F, m)))) with
    | true => match zrf 5 B F x.2.1 x.2.2 1 (.ofNat ts.length) (fun B F => k (.inl (dt, (l, r, hp, B, F, m)))) with
      | true => zaa ts 0 (fun c t => zrf 2 B F x.2.1 x.2.2 1 c (fun B F => k (.inl (t, (l, r, hp, B, F, m)))))
      | false => false
    | false => false)
  | _ => false
theorem d_Tb {ts : List Nat} {dt : Nat} : Sd (oTb ts dt) (tTb ts dt) := by
  intro K σ s lv st h H k hk
  obtain ⟨l, st0, hp, B, F, m⟩ := s
  unfold tTb at hk
  split at hk
  · rename_i l1 x r hp1 B1 F1 m1 e
    cases e
    obtain ⟨lo, hi, hk, xx, ex, -, -, Tx⟩ := zI_st H (cs_hd H.st) hk
    have e1 := H.st σ ag.rf
    rw [cs_cons, ex] at e1
    have e1 : st = .inl (.int xx) :: cs σ r := e1
    have fin : ∀ (R : Nat) (c : Int) (t : Nat), rel R xx.toInt c → oTb ts dt lv st h = some (.inl (t, lv, cs σ r, h, 0, 0)) → zrf R B F x.2.1 x.2.2 1 c (fun B F => k (.inl (t, (l, r, hp, B, F, m)))) = true → ∃ R, k R = true ∧ So K σ (l, x :: r, hp, B, F, m) (oTb ts dt) lv st h R := fun R c t hr ho hz => by
      obtain ⟨B', F', hk, hb⟩ := zrf_ok hz (P := ag m σ) (fun τ hτ => ⟨(H.bf τ hτ).1, (H.bf τ hτ).2.1, (H.bf τ hτ).2.2, by
        rw [Tx τ hτ, (H.bf τ hτ).2.2, Int.zero_add]
        exact hr⟩) σ ag.rf
      exact ⟨_, hk, σ, lv, cs σ r, h, ho, ms_bf H hb (cs_tl H.st), Nat.le_refl _, ag.rf⟩
    split at hk
    · rename_i h1
      split at hk
      · rename_i h2
        by_cases n0 : xx.toInt < 0
        · refine fin 0 0 dt n0 ?_ h1
          rw [e1]
          unfold oTb
          dsimp only
          rw [decide_eq_true (show xx < 0 from Int32.lt_iff_toInt_lt.mpr n0)]
          rfl
        · by_cases n1 : xx.toInt.toNat < ts.length
          · refine fin 2 (0 + (xx.toInt.toNat : Int)) (ts[xx.toInt.toNat]) ?_ ?_ (zaa_ok ts 0 _ hk _ _ (List.getElem?_eq_getElem n1))
            · show xx.toInt = 0 + (xx.toInt.toNat : Int)
              omega
            · rw [e1]
              unfold oTb
              dsimp only
              rw [nneg (by omega)]
              dsimp only
              rw [show ts[xx.toNatClampNeg]? = some (ts[xx.toInt.toNat]) from List.getElem?_eq_getElem n1]
              rfl
          · refine fin 5 (.ofNat ts.length) dt ?_ ?_ h2
            · show ((ts.length : Nat) : Int) ≤ xx.toInt
              omega
            · rw [e1]
              unfold oTb
              dsimp only
              rw [nneg (by omega)]
              dsimp only
              rw [show ts[xx.toNatClampNeg]? = none from List.getElem?_eq_none (by show ts.length ≤ xx.toInt.toNat; omega)]
              rfl
      · cases hk
    · cases hk
  · cases hk
def zlu (pc : Nat) : List (Int × Int) → Int → (Nat → Bool) → Bool
  | [], d, g => match (pc : Int) + d with
    | .ofNat t => frN t g
    | .negSucc _ => false
  | q :: ps, d, g => match (pc : Int) + q.2 with
    | .ofNat t => match frN t g with
      | true => zlu pc ps d g
      | false => false
    | .negSucc _ => false
theorem zlu_ok {pc : Nat} : ∀ (ps : List (Int × Int)) (d : Int) (g : Nat → Bool) (x : Int), zlu pc ps d g = true → ∃ t : Nat, (pc : Int) + Op.lookupswitch.offset ps d x = .ofNat t ∧ g t = true
  | [], d, g, x, h => by
    rw [zlu] at h
    rw [Op.lookupswitch.offset_nil]
    split at h
    · rename_i t ht
      rw [frN_eq] at h
      exact ⟨t, ht, h⟩
    · cases h
  | (a, o) :: ps, d, g, x, h => by
    rw [zlu] at h
    rw [Op.lookupswitch.offset_cons]
    split at h
    · rename_i t ht
      split at h
      · rename_i hg
        rw [frN_eq] at hg
        split
        · exact ⟨t, ht, hg⟩
        · exact zlu_ok ps d g x h
      · cases h
    · cases h
def tLu (pc : Nat) (ps : List (Int × Int)) (d : Int) : zT := fun _ s k => match s with
  | (l, x :: r, hp, B, F, m) => zI B x (fun _ _ => zlu pc ps d (fun t => k (.inl (t, (l, r, hp, B, F, m)))))
  | _ => false
theorem d_Lu {pc : Nat} {ps : List (Int × Int)} {d : Int} : Sd (oLu pc ps d) (tLu pc ps d) := by
  intro K σ s lv st h H k hk
  obtain ⟨l, st0, hp, B, F, m⟩ := s
  unfold tLu at hk
  split at hk
  · rename_i l1 x r hp1 B1 F1 m1 e
    cases e
    obtain ⟨lo, hi, hk, xx, ex, -, -, Tx⟩ := zI_st H (cs_hd H.st) hk
    obtain ⟨t, ht, hk⟩ := zlu_ok _ _ _ xx.toInt hk
    refine So.go (sc' := cs σ r) H hk ?_ (fun τ hτ a e _ _ => ⟨a, cs_tl H.st τ hτ⟩)
    rw [H.st σ ag.rf, cs_cons, ex]
    unfold oLu
    dsimp only
    rw [ht]
    dsimp only
    rw [frN_eq]
    rfl
  · cases hk
