/-! THE CHECKER'S STEPS, part seven: into arrays; longs, places, lengths, copies -/
/-- in the places from i on, c of them: hull with a .. b -/
def zwk (B : zB) (a b : Int) : List zE → Nat → Nat → (List zE → Bool) → Bool
  | [], _, 0, k => k []
  | [], _, _ + 1, _ => false
  | e :: t, i + 1, c, k => zwk B a b t i c (fun r => k (e :: r))
  | e :: t, 0, 0, k => k (e :: t)
  | e :: t, 0, c + 1, k => zeb B e (fun x y => frZ (imin x a) (fun x => frZ (imax y b) (fun y => zwk B a b t 0 c (fun r => k (.inl (x, y) :: r)))))
theorem zwk_ok {B : zB} {a b : Int} : ∀ (L : List zE) (i c : Nat) (k : List zE → Bool), zwk B a b L i c k = true → ∃ L', k L' = true ∧ L'.length = L.length ∧ ∀ σ, mB σ B → σ 1 = 0 → ∀ (t : Nat) (e' : zE) (z : Int32), L'[t]? = some e' → ((∃ e, L[t]? = some e ∧ me σ e (.int z)) ∨ (i ≤ t ∧ t < i + c ∧ a ≤ z.toInt ∧ z.toInt ≤ b)) → me σ e' (.int z)
  | [], i, 0, k, h => ⟨[], by cases i <;> exact h, rfl, fun σ _ _ t e' z h' _ => by simp at h'⟩
  | [], i, c + 1, k, h => by cases i <;> cases h
  | e :: L, i + 1, c, k, h => by
    obtain ⟨L', hk, hl, H⟩ := zwk_ok L i c _ (show zwk B a b L i c _ = true from h)
    refine ⟨e :: L', hk, by rw [List.length_cons, List.length_cons, hl], fun σ hB h1 t e' z he hz => ?_⟩
    match t, he, hz with
    | 0, he, hz =>
      cases he
      rcases hz with ⟨e2, q1, q2⟩ | ⟨q, _⟩
      · cases q1
        exact q2
      · omega
    | t + 1, he, hz =>
      refine H σ hB h1 t e' z he ?_
      rcases hz with ⟨e2, q1, q2⟩ | ⟨q1, q2, q3⟩
      · exact .inl ⟨e2, q1, q2⟩
      · exact .inr ⟨by omega, by omega, q3⟩
  | e :: L, 0, 0, k, h => ⟨e :: L, h, rfl, fun σ _ _ t e' z he hz => by
    rcases hz with ⟨e2, q1, q2⟩ | ⟨q1, q2, _⟩
    · rw [he] at q1
      cases q1
      exact q2
    · omega⟩
  | e :: L, 0, c + 1, k, h => by
    obtain ⟨x, y, hk, He⟩ := zeb_ok (show zeb B e _ = true from h)
    rw [frZ_eq, frZ_eq] at hk
    obtain ⟨L', hk, hl, H⟩ := zwk_ok L 0 c _ hk
    refine ⟨_, hk, by rw [List.length_cons, List.length_cons, hl], fun σ hB h1 t e' z he hz => ?_⟩
    match t, he, hz with
    | 0, he, hz =>
      cases he
      refine ⟨z, rfl, ?_⟩
      rcases hz with ⟨e2, q1, q2⟩ | ⟨_, _, q1, q2⟩
      · cases q1
        have := He σ hB h1 z q2
        exact ⟨Int.le_trans imin_l this.1, Int.le_trans this.2 imax_l⟩
      · exact ⟨Int.le_trans imin_r q1, Int.le_trans q2 imax_r⟩
    | t + 1, he, hz =>
      refine H σ hB h1 t e' z he ?_
      rcases hz with ⟨e2, q1, q2⟩ | ⟨q1, q2, q3⟩
      · exact .inl ⟨e2, q1, q2⟩
      · exact .inr ⟨by omega, by omega, q3⟩
/-- an int into an array -/
def tAT (n : Nat) : zT := fun md s k => match s with
  | (l, v :: j :: (2, p, _) :: r, hp, B, F, m) => zI B v (fun va vb => zI B j (fun lo hi => match ile 0 lo, zmem md p with
    | true, true => match zg hp p with
      | some (.inr (.inl (q, a, b))) => match ile (hi + 1) (.ofNat q), ile a va, ile vb b with
        | true, true, true => k (.inl (n, (l, r, hp, B, F, m)))
        | _, _, _ => false
      | some (.inl L) => match ile (hi + 1) (.ofNat L.length) with
        | true => match ieq lo hi with
          | true => frN lo.toNat (fun i => setF L i (.inr v) (fun L' => zset hp p (.inl L') (fun hp' => k (.inl (n, (l, r, hp', B, F, m))))))
          | false => frN lo.toNat (fun i => frN ((hi - lo).toNat + 1) (fun c => zwk B va vb L i c (fun L' => zset hp p (.inl L') (fun hp' => k (.inl (n, (l, r, hp', B, F, m)))))))
        | false => false
      | _ => false
    | _, _ => false))
  | _ => false
theorem oAT_eq {n : Nat} {lv : aL} {r : List aV} {h : aH} {p : Nat} {l : List Int32} {j v : Int32} (hx : h[p]? = some (.inl l)) (h0 : 0 ≤ j.toInt) (hj : j.toInt.toNat < l.length) : oAT n lv (.inl (.int v) :: .inl (.int j) :: .inl (.ref p) :: r) h = some (.inl (n, lv, r, h.set p (.inl (l.set j.toInt.toNat v)), 0, 0)) := by
  unfold oAT
  dsimp only
  rw [hx]
  dsimp only
  rw [decide_eq_false (show ¬ j < 0 from fun q => by have := Int32.lt_iff_toInt_lt.mp q; have e : (0 : Int32).toInt = 0 := rfl; omega)]
  dsimp only
  rw [show l[j.toNatClampNeg]? = some (l[j.toInt.toNat]) from List.getElem?_eq_getElem hj]
  dsimp only
  rw [setF_eq, setF_eq]
  rfl
theorem set_mem {α : Type} {l : List α} {i : Nat} {v y : α} (h : y ∈ l.set i v) : y = v ∨ y ∈ l := by
  rcases List.mem_or_eq_of_mem_set h with q | q
  · exact .inr q
  · exact .inl q
theorem d_AT {n : Nat} : Sd (oAT n) (tAT n) := by
  intro K σ s lv st h H k hk
  obtain ⟨l, st0, hp, B, F, m⟩ := s
  unfold tAT at hk
  split at hk
  · rename_i l1 v j p o r hp1 B1 F1 m1 e
    cases e
    obtain ⟨va, vb, hk, vv, ev, v1, v2, Tv⟩ := zI_st H (cs_hd H.st) hk
    obtain ⟨lo, hi, hk, jj, ej, j1, j2, Tj⟩ := zI_st H (cs_hd (cs_tl H.st)) hk
    have e1 := H.st σ ag.rf
    rw [cs_cons, cs_cons, cs_cons, ev, ej] at e1
    have e1 : st = .inl (.int vv) :: .inl (.int jj) :: .inl (.ref p) :: cs σ r := e1
    have rest := cs_tl (cs_tl (cs_tl H.st))
    split at hk
    · rename_i q0 qm
      have q0 := ile_le q0
      have qm := zmem_ok qm
      have j0 : 0 ≤ jj.toInt := by omega
      split at hk
      · rename_i q a b hg
        split at hk
        · rename_i q1 q2 q3
          have q1 : hi + 1 ≤ (q : Int) := ile_le q1
          have q2 := ile_le q2
          have q3 := ile_le q3
          obtain ⟨x, hx, mx⟩ := H.hp σ ag.rf p _ hg
          obtain ⟨la, rfl, ll, lb⟩ := mc_uni mx
          have li : jj.toInt.toNat < la.length := by rw [ll]; dsimp only; omega
          refine ⟨_, hk, σ, lv, cs σ r, _, by rw [e1]; exact oAT_eq hx j0 li, fun τ hτ => ?_, Nat.le_refl _, ag.rf⟩
          have G := H τ hτ
          refine ⟨⟨G.1.1, rest τ hτ⟩, fun p' c hc => ?_, G.2.2.1, G.2.2.2.1, G.2.2.2.2.1, fr_set G.2.2.2.2.2 qm _⟩
          have lp : p < h.length := (List.getElem?_eq_some_iff.mp hx).1
          by_cases ep : p' = p
          · subst ep
            rw [hg] at hc
            cases hc
            refine ⟨_, List.getElem?_set_self lp, ?_, fun y hy => ?_⟩
            · rw [List.length_set]
              exact ll
            · rcases set_mem hy with rfl | hy
              · exact ⟨by omega, by omega⟩
              · exact lb y hy
          · obtain ⟨x', h1, h2⟩ := G.2.1 p' c hc
            exact ⟨x', by rw [List.getElem?_set_ne (fun z => ep z.symm)]; exact h1, h2⟩
        · cases hk
      · rename_i L hg
        obtain ⟨x, hx, mx⟩ := H.hp σ ag.rf p _ hg
        obtain ⟨la, rfl, ll, -⟩ := mc_ints mx
        have all : ∀ τ, ag m σ τ → ∀ (i : Nat) (e : zE) (y : Int32), L[i]? = some e → la[i]? = some y → me τ e (.int y) := fun τ hτ => by
          obtain ⟨x', hx', mx'⟩ := H.hp τ hτ p _ hg
          rw [hx] at hx'
          cases hx'
          exact mx'.2
        split at hk
        · rename_i q1
          have q1 : hi + 1 ≤ (L.length : Int) := ile_le q1
          have li : jj.toInt.toNat < la.length := by rw [← ll]; omega
          split at hk
          · rename_i q2
            have q2 := ieq_eq q2
            have ejn : lo.toNat = jj.toInt.toNat := by omega
            rw [frN_eq, setF_eq, ejn] at hk
            obtain ⟨hp', zk, zz⟩ := zset_ok hp p (.inl (L.set jj.toInt.toNat (.inr v))) (fun hp' => k (.inl (n, (l, r, hp', B, F, m))))
            rw [zk] at hk
            refine ⟨_, hk, σ, lv, cs σ r, _, by rw [e1]; exact oAT_eq hx j0 li, fun τ hτ => ?_, Nat.le_refl _, ag.rf⟩
            have G := H τ hτ
            refine ⟨⟨G.1.1, rest τ hτ⟩, ?_, G.2.2.1, G.2.2.2.1, G.2.2.2.2.1, fr_set G.2.2.2.2.2 qm _⟩
            exact mh_ch (c := .inl (L.set jj.toInt.toNat (.inr v))) G.2.1 hx (set_me (w := Value.int) (e := .inr v) ll (all τ hτ) _ (by show Value.int vv = cv τ v; rw [cs_hd H.st τ hτ, ev])) zz
          · rw [frN_eq, frN_eq] at hk
            obtain ⟨L', hk, hl, Hw⟩ := zwk_ok _ _ _ _ hk
            obtain ⟨hp', zk, zz⟩ := zset_ok hp p (.inl L') (fun hp' => k (.inl (n, (l, r, hp', B, F, m))))
            rw [zk] at hk
            refine ⟨_, hk, σ, lv, cs σ r, _, by rw [e1]; exact oAT_eq hx j0 li, fun τ hτ => ?_, Nat.le_refl _, ag.rf⟩
            have G := H τ hτ
            refine ⟨⟨G.1.1, rest τ hτ⟩, ?_, G.2.2.1, G.2.2.2.1, G.2.2.2.2.1, fr_set G.2.2.2.2.2 qm _⟩
            refine mh_ch (c := .inl L') G.2.1 hx ⟨by rw [List.length_set, hl]; exact ll, fun i e' y he hy => ?_⟩ zz
            refine Hw τ G.2.2.1 G.2.2.2.2.1.1 i e' y he ?_
            rw [List.getElem?_set] at hy
            by_cases q : jj.toInt.toNat = i
            · rw [if_pos q, if_pos li] at hy
              cases hy
              exact .inr ⟨by omega, by omega, v1, v2⟩
            · rw [if_neg q] at hy
              have lt : i < L.length := by rw [ll]; exact (List.getElem?_eq_some_iff.mp hy).1
              exact .inl ⟨_, List.getElem?_eq_getElem lt, all τ hτ i _ y (List.getElem?_eq_getElem lt) hy⟩
        · cases hk
      · cases hk
    · cases hk
  · cases hk
theorem mc_longs {σ : Nat → Int} {q : Nat} {x : aE} (h : mc σ (.inr (.inr (.inl q))) x) : ∃ l, x = .inr (.inl l) ∧ l.length = q := by
  rcases x with l | l | x
  · exact h.elim
  · exact ⟨l, rfl, h⟩
  · exact h.elim
theorem nneg {j : Int32} (h0 : 0 ≤ j.toInt) : decide (j < 0) = false := decide_eq_false (fun q => by have := Int32.lt_iff_toInt_lt.mp q; have e : (0 : Int32).toInt = 0 := rfl; omega)
def tAL (n : Nat) : zT := fun _ s k => match s with
  | (l, j :: (2, p, _) :: r, hp, B, F, m) => zI B j (fun lo hi => match zg hp p with
    | some (.inr (.inr (.inl q))) => match ile 0 lo, ile (hi + 1) (.ofNat q) with
      | true, true => zN 1 B m (-9223372036854775808) 9223372036854775807 (fun v B m => k (.inl (n, (l, v :: r, hp, B, F, m))))
      | _, _ => false
    | _ => false)
  | _ => false
theorem d_AL {n : Nat} : Sd (oAL n) (tAL n) := by
  intro K σ s lv st h H k hk
  obtain ⟨l, st0, hp, B, F, m⟩ := s
  unfold tAL at hk
  split at hk
  · rename_i l1 j p o r hp1 B1 F1 m1 e
    cases e
    obtain ⟨lo, hi, hk, jj, ej, j1, j2, Tj⟩ := zI_st H (cs_hd H.st) hk
    have e1 := H.st σ ag.rf
    rw [cs_cons, cs_cons, ej] at e1
    have e1 : st = .inl (.int jj) :: .inl (.ref p) :: cs σ r := e1
    split at hk
    · rename_i q hg
      split at hk
      · rename_i q0 q1
        have q0 := ile_le q0
        have q1 : hi + 1 ≤ (q : Int) := ile_le q1
        obtain ⟨x, hx, mx⟩ := H.hp σ ag.rf p _ hg
        obtain ⟨la, rfl, ll⟩ := mc_longs mx
        have li : jj.toInt.toNat < la.length := by rw [ll]; omega
        refine So.push (rc := cs σ r) (V := .long (la[jj.toInt.toNat])) (VP.long H hk _ (i64_lo _) (i64_hi _)) (cs_tl (cs_tl H.st)) ?_
        rw [e1]
        unfold oAL
        dsimp only
        rw [hx]
        dsimp only
        rw [nneg (by omega)]
        dsimp only
        rw [show la[jj.toNatClampNeg]? = some (la[jj.toInt.toNat]) from List.getElem?_eq_getElem li]
        rfl
      · cases hk
    · cases hk
  · cases hk
def tAJ (n : Nat) : zT := fun md s k => match s with
  | (l, v :: j :: (2, p, _) :: r, hp, B, F, m) => zJ B v (fun _ _ => zI B j (fun lo hi => match zg hp p with
    | some (.inr (.inr (.inl q))) => match ile 0 lo, ile (hi + 1) (.ofNat q), zmem md p with
      | true, true, true => k (.inl (n, (l, r, hp, B, F, m)))
      | _, _, _ => false
    | _ => false))
  | _ => false
theorem d_AJ {n : Nat} : Sd (oAJ n) (tAJ n) := by
  intro K σ s lv st h H k hk
  obtain ⟨l, st0, hp, B, F, m⟩ := s
  unfold tAJ at hk
  split at hk
  · rename_i l1 v j p o r hp1 B1 F1 m1 e
    cases e
    obtain ⟨va, vb, hk, vv, ev, -⟩ := zJ_st H (cs_hd H.st) hk
    obtain ⟨lo, hi, hk, jj, ej, j1, j2, Tj⟩ := zI_st H (cs_hd (cs_tl H.st)) hk
    have e1 := H.st σ ag.rf
    rw [cs_cons, cs_cons, cs_cons, ev, ej] at e1
    have e1 : st = .inl (.long vv) :: .inl (.int jj) :: .inl (.ref p) :: cs σ r := e1
    split at hk
    · rename_i q hg
      split at hk
      · rename_i q0 q1 qm
        have q0 := ile_le q0
        have q1 : hi + 1 ≤ (q : Int) := ile_le q1
        have qm := zmem_ok qm
        obtain ⟨x, hx, mx⟩ := H.hp σ ag.rf p _ hg
        obtain ⟨la, rfl, ll⟩ := mc_longs mx
        have li : jj.toInt.toNat < la.length := by rw [ll]; omega
        refine ⟨_, hk, σ, lv, cs σ r, h.set p (.inr (.inl (la.set jj.toInt.toNat vv))), ?_, fun τ hτ => ?_, Nat.le_refl _, ag.rf⟩
        · rw [e1]
          unfold oAJ
          dsimp only
          rw [hx]
          dsimp only
          rw [nneg (by omega)]
          dsimp only
          rw [show la[jj.toNatClampNeg]? = some (la[jj.toInt.toNat]) from List.getElem?_eq_getElem li]
          dsimp only
          rw [setF_eq, setF_eq]
          rfl
        · have G := H τ hτ
          refine ⟨⟨G.1.1, cs_tl (cs_tl (cs_tl H.st)) τ hτ⟩, fun p' c hc => ?_, G.2.2.1, G.2.2.2.1, G.2.2.2.2.1, fr_set G.2.2.2.2.2 qm _⟩
          have lp : p < h.length := (List.getElem?_eq_some_iff.mp hx).1
          by_cases ep : p' = p
          · subst ep
            rw [hg] at hc
            cases hc
            exact ⟨_, List.getElem?_set_self lp, by show (la.set jj.toInt.toNat vv).length = q; rw [List.length_set]; exact ll⟩
          · obtain ⟨x', h1, h2⟩ := G.2.1 p' c hc
            exact ⟨x', by rw [List.getElem?_set_ne (fun z => ep z.symm)]; exact h1, h2⟩
      · cases hk
    · cases hk
  · cases hk
def tAn (n : Nat) : zT := fun _ s k => match s with
  | (l, (2, p, _) :: r, hp, B, F, m) => match zg hp p with
    | some (.inr (.inl (q, _, _))) => match Nat.ble q 1000000 with
      | true => k (.inl (n, (l, (0, 1, .ofNat q) :: r, hp, B, F, m)))
      | false => false
    | _ => false
  | _ => false
theorem d_An {n : Nat} : Sd (oAn n) (tAn n) := by
  intro K σ s lv st h H k hk
  obtain ⟨l, st0, hp, B, F, m⟩ := s
  unfold tAn at hk
  split at hk
  · rename_i l1 p o r hp1 B1 F1 m1 e
    cases e
    split at hk
    · rename_i q a b hg
      split at hk
      · rename_i hq
        have hq := Nat.le_of_ble_eq_true hq
        obtain ⟨x, hx, mx⟩ := H.hp σ ag.rf p _ hg
        obtain ⟨la, rfl, ll, -⟩ := mc_uni mx
        have ll : la.length = q := ll
        have en : (Int32.ofNat la.length).toInt = (q : Int) := by
          rw [ll]
          exact Int32.toInt_ofNat_of_lt (by omega)
        refine So.go (sc' := .inl (.int (Int32.ofNat la.length)) :: cs σ r) H hk ?_ (fun τ hτ a e _ h1 => ⟨a, ?_⟩)
        · rw [H.st σ ag.rf]
          show oAn n lv (.inl (.ref p) :: cs σ r) h = _
          unfold oAn
          dsimp only
          rw [hx]
          dsimp only
          rw [frI_eq]
          rfl
        · rw [cs_cons, ← cs_tl H.st τ hτ, cv_int (x := Int32.ofNat la.length) rfl (by show τ 1 + (q : Int) = _; rw [h1, en]; omega)]
      · cases hk
    · cases hk
  · cases hk
def z00 (B : zB) (v : zV) : Bool := zI B v (fun a b => match ieq a 0, ieq b 0 with
  | true, true => true
  | _, _ => false)
def tCp (n : Nat) : zT := fun md s k => match s with
  | (l, z :: y :: (2, a1, _) :: w :: (2, a0, _) :: r, hp, B, F, m) => match z00 B y, z00 B w, Nat.ble (zcat r) 8, zmem md a1 with
    | true, true, true, true => zI B z (fun zl zh => match ieq zl zh, ile 0 zl with
      | true, true => match zg hp a0, zg hp a1 with
        | some (.inr (.inl (q, a, b))), some (.inr (.inl (q', _, _))) => match ieq zl (.ofNat q), Nat.beq q q' with
          | true, true => zset hp a1 (.inr (.inl (q, a, b))) (fun hp' => k (.inl (n, (l, r, hp', B, F, m))))
          | _, _ => false
        | some (.inl L), some (.inl L') => match ieq zl (.ofNat L.length), Nat.beq L.length L'.length with
          | true, true => zset hp a1 (.inl L) (fun hp' => k (.inl (n, (l, r, hp', B, F, m))))
          | _, _ => false
        | _, _ => false
      | _, _ => false)
    | _, _, _, _ => false
  | _ => false
theorem z00_ok {K : zK} {σ : Nat → Int} {l : List (Nat × zV)} {st : List zV} {hp : List (Nat × zC)} {B : zB} {F : List zF} {n : Nat} {lv : aL} {sc : List aV} {h : aH} (H : ms K σ (l, st, hp, B, F, n) lv sc h) {x : zV} (hx : ∀ τ, ag n σ τ → cv τ x = cv σ x) (hk : z00 B x = true) : cv σ x = .int 0 := by
  obtain ⟨a, b, hk, xx, ex, x1, x2, -⟩ := zI_st H hx hk
  split at hk
  · rename_i p q
    have p := ieq_eq p
    have q := ieq_eq q
    rw [ex, show xx = 0 from Int32.toInt_inj.mp (show xx.toInt = 0 by omega)]
  · cases hk
theorem d_Cp {n : Nat} : Sd (oCp n) (tCp n) := by
  intro K σ s lv st h H k hk
  obtain ⟨l, st0, hp, B, F, m⟩ := s
  unfold tCp at hk
  split at hk
  · rename_i l1 z y a1 o1 w a0 o0 r hp1 B1 F1 m1 e
    cases e
    split at hk
    · rename_i hy hw hc qm
      have qm := zmem_ok qm
      have ey := z00_ok H (cs_hd (cs_tl H.st)) hy
      have ew := z00_ok H (cs_hd (cs_tl (cs_tl (cs_tl H.st)))) hw
      obtain ⟨zl, zh, hk, zz, ez, z1, z2, -⟩ := zI_st H (cs_hd H.st) hk
      have e1 := H.st σ ag.rf
      rw [cs_cons, cs_cons, cs_cons, cs_cons, cs_cons, ez, ey, ew] at e1
      have e1 : st = .inl (.int zz) :: .inl (.int 0) :: .inl (.ref a1) :: .inl (.int 0) :: .inl (.ref a0) :: cs σ r := e1
      have rest := cs_tl (cs_tl (cs_tl (cs_tl (cs_tl H.st))))
      split at hk
      · rename_i q0 q1
        have q0 := ieq_eq q0
        have q1 := ile_le q1
        have fin : ∀ (c : zC) (l0 l1' : List Int32), h[a0]? = some (.inl l0) → h[a1]? = some (.inl l1') → (l0.length : Int) = zl → l0.length = l1'.length → (∀ τ, ag m σ τ → mc τ c (.inl l0)) → zset hp a1 c (fun hp' => k (.inl (n, (l, r, hp', B, F, m)))) = true → ∃ R, k R = true ∧ So K σ (l, z :: y :: (2, a1, o1) :: w :: (2, a0, o0) :: r, hp, B, F, m) (oCp n) lv st h R := by
          intro c l0 l1' h0 h1 hz hl hc' hk
          obtain ⟨hp', zk, zz'⟩ := zset_ok hp a1 c (fun hp' => k (.inl (n, (l, r, hp', B, F, m))))
          rw [zk] at hk
          have en : zz.toInt.toNat = l0.length := by omega
          refine ⟨_, hk, σ, lv, cs σ r, h.set a1 (.inl l0), ?_, fun τ hτ => ?_, Nat.le_refl _, ag.rf⟩
          · rw [e1]
            unfold oCp
            dsimp only
            rw [decide_eq_true (show (0 : Int32) = 0 from rfl), nneg (by omega), zcat_ok, hc]
            dsimp only
            rw [h0, h1]
            dsimp only
            rw [show zz.toNatClampNeg = l0.length from en, ← hl, show Nat.beq l0.length l0.length = true by simp]
            dsimp only
            rw [setF_eq]
            rfl
          · have G := H τ hτ
            exact ⟨⟨G.1.1, rest τ hτ⟩, mh_ch G.2.1 h1 (hc' τ hτ) zz', G.2.2.1, G.2.2.2.1, G.2.2.2.2.1, fr_set G.2.2.2.2.2 qm _⟩
        split at hk
        · rename_i q a b q' a' b' hg0 hg1
          split at hk
          · rename_i q2 q3
            have q2 := ieq_eq q2
            have q3 := Nat.eq_of_beq_eq_true q3
            obtain ⟨x0, hx0, mx0⟩ := H.hp σ ag.rf a0 _ hg0
            obtain ⟨la0, rfl, ll0, lb0⟩ := mc_uni mx0
            obtain ⟨x1, hx1, mx1⟩ := H.hp σ ag.rf a1 _ hg1
            obtain ⟨la1, rfl, ll1, -⟩ := mc_uni mx1
            exact fin (.inr (.inl (q, a, b))) la0 la1 hx0 hx1 (by rw [ll0, q2]; rfl) (by rw [ll0, ll1]; exact q3) (fun τ _ => ⟨ll0, lb0⟩) hk
          · cases hk
        · rename_i L L' hg0 hg1
          split at hk
          · rename_i q2 q3
            have q2 := ieq_eq q2
            have q3 := Nat.eq_of_beq_eq_true q3
            obtain ⟨x0, hx0, mx0⟩ := H.hp σ ag.rf a0 _ hg0
            obtain ⟨la0, rfl, ll0, -⟩ := mc_ints mx0
            obtain ⟨x1, hx1, mx1⟩ := H.hp σ ag.rf a1 _ hg1
            obtain ⟨la1, rfl, ll1, -⟩ := mc_ints mx1
            exact fin _ la0 la1 hx0 hx1 (by rw [← ll0, q2]; rfl) (by rw [← ll0, ← ll1]; exact q3) (fun τ hτ => by
              obtain ⟨x', hx', mx'⟩ := H.hp τ hτ a0 _ hg0
              rw [hx0] at hx'
              cases hx'
              exact mx') hk
          · cases hk
        · cases hk
      · cases hk
    · cases hk
  · cases hk
