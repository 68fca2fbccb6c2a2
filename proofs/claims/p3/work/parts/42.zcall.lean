/-! THE CHECKER: a call by what is known of it. Its answer's pattern X has symbols of its own: they become new ones. -/
def ren (n : Nat) : Nat → Nat
  | 0 => 0
  | 1 => 1
  | i + 2 => n + i
def rnV {β : Type} (n : Nat) (v : zV) (k : zV → β) : β := match v.1 with
  | 0 => frN (ren n v.2.1) (fun i => k (0, i, v.2.2))
  | 1 => frN (ren n v.2.1) (fun i => k (1, i, v.2.2))
  | _ => k v
def rv (n : Nat) (v : zV) : zV := match v.1 with
  | 0 => (0, ren n v.2.1, v.2.2)
  | 1 => (1, ren n v.2.1, v.2.2)
  | _ => v
theorem rnV_eq {β : Type} (n : Nat) (v : zV) (k : zV → β) : rnV n v k = k (rv n v) := by
  unfold rnV rv
  split
  · exact frN_eq _ _
  · exact frN_eq _ _
  · rfl
theorem cv_rv (τ : Nat → Int) (n : Nat) (v : zV) : cv τ (rv n v) = cv (fun i => τ (ren n i)) v := by
  obtain ⟨t, i, a⟩ := v
  match t with
  | 0 => rfl
  | 1 => rfl
  | 2 => rfl
  | t + 3 => rfl
def re (n : Nat) : zE → zE
  | .inl q => .inl q
  | .inr v => .inr (rv n v)
def rnE {β : Type} (n : Nat) : List zE → (List zE → β) → β
  | [], k => k []
  | .inl q :: t, k => rnE n t (fun r => k (.inl q :: r))
  | .inr v :: t, k => rnV n v (fun v' => rnE n t (fun r => k (.inr v' :: r)))
theorem rnE_eq {β : Type} (n : Nat) : ∀ (L : List zE) (k : List zE → β), rnE n L k = k (L.map (re n))
  | [], k => rfl
  | .inl q :: t, k => by rw [rnE, rnE_eq]; rfl
  | .inr v :: t, k => by rw [rnE, rnV_eq, rnE_eq]; rfl
def rc (n : Nat) : zC → zC
  | .inl L => .inl (L.map (re n))
  | .inr (.inr (.inr (.inr (ci, L)))) => .inr (.inr (.inr (.inr (ci, L.map (re n)))))
  | c => c
def rnC {β : Type} (n : Nat) (c : zC) (k : zC → β) : β := match c with
  | .inl L => rnE n L (fun r => k (.inl r))
  | .inr (.inr (.inr (.inr (ci, L)))) => rnE n L (fun r => k (.inr (.inr (.inr (.inr (ci, r))))))
  | c => k c
theorem rnC_eq {β : Type} (n : Nat) (c : zC) (k : zC → β) : rnC n c k = k (rc n c) := by
  rcases c with L | q | q | q | ⟨ci, L⟩
  · exact rnE_eq n L _
  · rfl
  · rfl
  · rfl
  · exact rnE_eq n L _
theorem me_re' {τ : Nat → Int} {n : Nat} {e : zE} {y : Value} (h : me (fun i => τ (ren n i)) e y) : me τ (re n e) y := by
  rcases e with q | v
  · exact h
  · exact (show y = cv (fun i => τ (ren n i)) v from h).trans (cv_rv τ n v).symm
theorem mc_rc {τ : Nat → Int} {n : Nat} {c : zC} {x : aE} (h : mc (fun i => τ (ren n i)) c x) : mc τ (rc n c) x := by
  rcases c with L | q | q | q | ⟨ci, L⟩
  · obtain ⟨l, rfl, ll, H⟩ := mc_ints h
    refine ⟨by rw [List.length_map]; exact ll, fun i e y he hy => ?_⟩
    rw [List.getElem?_map] at he
    obtain ⟨e', h1, rfl⟩ := Option.map_eq_some_iff.mp he
    exact me_re' (H i e' y h1 hy)
  · rcases x with l | x <;> exact h
  · rcases x with l | l | x <;> exact h
  · rcases x with l | l | l | x <;> exact h
  · obtain ⟨fs, rfl, ll, H⟩ := mc_obj h
    refine ⟨rfl, by rw [List.length_map]; exact ll, fun i e y he hy => ?_⟩
    rw [List.getElem?_map] at he
    obtain ⟨e', h1, rfl⟩ := Option.map_eq_some_iff.mp he
    exact me_re' (H i e' y h1 hy)
def rnH {β : Type} (n : Nat) : List (Nat × zC) → List (Nat × zC) → (List (Nat × zC) → β) → β
  | [], acc, k => k acc
  | q :: t, acc, k => rnC n q.2 (fun c => rnH n t acc (fun r => k ((q.1, c) :: r)))
theorem rnH_eq {β : Type} (n : Nat) : ∀ (X acc : List (Nat × zC)) (k : List (Nat × zC) → β), rnH n X acc k = k (X.map (fun q => (q.1, rc n q.2)) ++ acc)
  | [], acc, k => rfl
  | q :: t, acc, k => by rw [rnH, rnC_eq, rnH_eq]; rfl
def rnB {β : Type} (n : Nat) : zB → zB → (zB → β) → β
  | [], acc, k => k acc
  | q :: t, acc, k => frN (ren n q.1) (fun i => rnB n t acc (fun r => k ((i, q.2) :: r)))
theorem rnB_eq {β : Type} (n : Nat) : ∀ (X acc : zB) (k : zB → β), rnB n X acc k = k (X.map (fun q => (ren n q.1, q.2)) ++ acc)
  | [], acc, k => rfl
  | q :: t, acc, k => by rw [rnB, frN_eq, rnB_eq]; rfl
def rf (n : Nat) (f : zF) : zF := (f.1, ren n f.2.1, ren n f.2.2.1, ren n f.2.2.2.1, f.2.2.2.2)
def rnF {β : Type} (n : Nat) : List zF → List zF → (List zF → β) → β
  | [], acc, k => k acc
  | f :: t, acc, k => frN (ren n f.2.1) (fun a => frN (ren n f.2.2.1) (fun b => frN (ren n f.2.2.2.1) (fun c => rnF n t acc (fun r => k ((f.1, a, b, c, f.2.2.2.2) :: r)))))
theorem rnF_eq {β : Type} (n : Nat) : ∀ (X acc : List zF) (k : List zF → β), rnF n X acc k = k (X.map (rf n) ++ acc)
  | [], acc, k => rfl
  | f :: t, acc, k => by
    rw [rnF, frN_eq, frN_eq, frN_eq, rnF_eq]
    rfl
theorem hf_rf {τ : Nat → Int} {n : Nat} {f : zF} (h : hf (fun i => τ (ren n i)) f) : hf τ (rf n f) := by
  obtain ⟨t, i, j, k, d⟩ := f
  match t, h with
  | 0, h => exact h
  | 1, h => exact h
  | 2, h => exact h
  | 3, h => exact h
  | t + 4, h => exact h
theorem zlc_app : ∀ (a b : List (Nat × zC)) (p : Nat), zlc (a ++ b) p = match zlc a p with
    | some c => some c
    | none => zlc b p
  | [], b, p => rfl
  | q :: t, b, p => by
    rw [List.cons_append, zlc, zlc]
    split
    · rfl
    · exact zlc_app t b p
theorem zlc_map (f : zC → zC) : ∀ (a : List (Nat × zC)) (p : Nat), zlc (a.map (fun q => (q.1, f q.2))) p = (zlc a p).map f
  | [], p => rfl
  | q :: t, p => by
    rw [List.map_cons, zlc, zlc]
    dsimp only
    split
    · rfl
    · exact zlc_map f t p
def znm (md : List Nat) (q : Nat × zC) : Bool := match zmem md q.1 with
  | true => false
  | false => true
theorem zlc_flt {md : List Nat} : ∀ (a : List (Nat × zC)) (p : Nat), zlc (a.filter (znm md)) p = match zmem md p with
    | true => none
    | false => zlc a p
  | [], p => by cases h : zmem md p <;> simp [zlc]
  | q :: t, p => by
    have ih := zlc_flt (md := md) t p
    rw [List.filter_cons]
    cases hb : Nat.beq q.1 p with
    | true =>
      have e := Nat.eq_of_beq_eq_true hb
      unfold znm
      rw [e]
      cases hm : zmem md p with
      | true =>
        rw [hm] at ih
        rw [if_neg (by simp)]
        exact ih
      | false =>
        rw [if_pos rfl, zlc, hb, zlc, hb]
    | false =>
      have e2 : zlc (q :: t) p = zlc t p := by rw [zlc, hb]
      rw [e2]
      split
      · rw [zlc, hb]
        exact ih
      · exact ih
def zsubs : List Nat → List Nat → Bool
  | [], _ => true
  | a :: s, t => match zmem t a with
    | true => zsubs s t
    | false => false
theorem zsubs_ok : ∀ {s t : List Nat}, zsubs s t = true → ∀ p, p ∈ s → p ∈ t
  | [], t, _, p, h => absurd h List.not_mem_nil
  | a :: s, t, hz, p, h => by
    rw [zsubs] at hz
    split at hz
    · rename_i q
      rcases List.mem_cons.mp h with rfl | h
      · exact zmem_ok q
      · exact zsubs_ok hz p h
    · cases hz
theorem zmem_in : ∀ {l : List Nat} {p : Nat}, p ∈ l → zmem l p = true
  | [], p, h => absurd h List.not_mem_nil
  | q :: t, p, h => by
    rw [zmem]
    split
    · rfl
    · rename_i e
      rcases List.mem_cons.mp h with rfl | h
      · simp at e
      · exact zmem_in h
/-- the state behind a call: places md as X says, the answer on the stack -/
def zaf (X : zS) (md : List Nat) (s : zS) (k : zS → Bool) : Bool := match X, s with
  | (_, xs, xh, xB, xF, xn), (l, st, hp, B, F, n) => match xn with
    | m + 2 => fltF (znm md) hp (fun hp => rnH n xh hp (fun hp => rnB n xB B (fun B => rnF n xF F (fun F => frN (n + m) (fun n' => match xs with
      | [] => k (l, st, hp, B, F, n')
      | [v] => rnV n v (fun v => k (l, v :: st, hp, B, F, n'))
      | _ => false)))))
    | _ => false
def sgX (σ σX : Nat → Int) (n : Nat) : Nat → Int := fun j => if j < n then σ j else σX (j - n + 2)
theorem zaf_ok {K : zK} {σ σX : Nat → Int} {s X : zS} {md : List Nat} {lv : aL} {sc : List aV} {h h' : aH} {r : Option Value} (H : ms K σ s lv sc h) (HX : ms (K.1, h, md) σX X [] (rl r) h') (hs : zsubs md K.2.2 = true) {k : zS → Bool} (hk : zaf X md s k = true) : ∃ s' σ', k s' = true ∧ ms K σ' s' lv (rl r ++ sc) h' ∧ s.2.2.2.2.2 ≤ s'.2.2.2.2.2 ∧ ag s.2.2.2.2.2 σ σ' := by
  obtain ⟨l, st, hp, B, F, n⟩ := s
  obtain ⟨xl, xs, xh, xB, xF, xn⟩ := X
  unfold zaf at hk
  dsimp only at hk
  split at hk
  · rename_i m
    rw [fltF_eq, rnH_eq, rnB_eq, rnF_eq, frN_eq] at hk
    have n2 : 2 ≤ n := (H σ ag.rf).2.2.2.2.1.2.2
    have base : ∀ τ, ag (n + m) (sgX σ σX n) τ → m0 K τ (l, st, hp, B, F, n) lv sc h ∧ m0 (K.1, h, md) (fun i => τ (ren n i)) (xl, xs, xh, xB, xF, m + 2) [] (rl r) h' ∧ τ 0 = (fun i => τ (ren n i)) 0 := fun τ hτ => by
      have a1 : ag n σ τ := fun i hi => by
        rw [hτ i (by omega)]
        exact if_pos hi
      refine ⟨H τ a1, HX _ (fun i hi => ?_), rfl⟩
      have G := H σ ag.rf
      have GX := HX σX ag.rf
      match i, hi with
      | 0, _ =>
        show τ 0 = σX 0
        rw [a1 0 (by omega), G.2.2.2.2.1.2.1, GX.2.2.2.2.1.2.1]
      | 1, _ =>
        show τ 1 = σX 1
        rw [a1 1 (by omega), G.2.2.2.2.1.1, GX.2.2.2.2.1.1]
      | i + 2, hi =>
        have hi : i + 2 < m + 2 := hi
        show τ (n + i) = σX (i + 2)
        rw [hτ (n + i) (by omega)]
        unfold sgX
        rw [if_neg (by omega), show n + i - n + 2 = i + 2 by omega]
    have fin : ∀ st' : List zV, (∀ τ, ag (n + m) (sgX σ σX n) τ → rl r ++ sc = cs τ st') → ms K (sgX σ σX n) (l, st', xh.map (fun q => (q.1, rc n q.2)) ++ hp.filter (znm md), xB.map (fun q => (ren n q.1, q.2)) ++ B, xF.map (rf n) ++ F, n + m) lv (rl r ++ sc) h' := fun st' hst τ hτ => by
      obtain ⟨G, GX, e0⟩ := base τ hτ
      refine ⟨⟨G.1.1, hst τ hτ⟩, fun p c hc => ?_, fun b hb => ?_, fun f hf => ?_, ⟨G.2.2.2.2.1.1, G.2.2.2.2.1.2.1, by show 2 ≤ n + m; omega⟩, fun p hp => ?_⟩
      · unfold zg at hc
        rw [zlc_app, zlc_map, zlc_flt] at hc
        cases hx : zlc xh p with
        | some d =>
          rw [hx] at hc
          cases hc
          obtain ⟨x, h1, h2⟩ := GX.2.1 p d (by unfold zg; rw [hx])
          exact ⟨x, h1, mc_rc h2⟩
        | none =>
          rw [hx] at hc
          dsimp only [Option.map] at hc
          cases hm : zmem md p with
          | true =>
            rw [hm] at hc
            dsimp only at hc
            obtain ⟨x, h1, h2⟩ := GX.2.1 p c (by unfold zg; rw [hx]; exact hc)
            exact ⟨x, h1, okC_ok (σ := fun i => τ (ren n i)) (zD_ok hc) e0 h2⟩
          | false =>
            rw [hm] at hc
            obtain ⟨x, h1, h2⟩ := G.2.1 p c hc
            refine ⟨x, ?_, h2⟩
            rw [GX.2.2.2.2.2 p (fun z => by rw [zmem_in z] at hm; cases hm)]
            exact h1
      · rcases List.mem_append.mp hb with hb | hb
        · obtain ⟨q, hq, rfl⟩ := List.mem_map.mp hb
          exact GX.2.2.1 q hq
        · exact G.2.2.1 b hb
      · rcases List.mem_append.mp hf with hf | hf
        · obtain ⟨q, hq, rfl⟩ := List.mem_map.mp hf
          exact hf_rf (GX.2.2.2.1 q hq)
        · exact G.2.2.2.1 f hf
      · rw [GX.2.2.2.2.2 p (fun z => hp (zsubs_ok hs p z))]
        exact G.2.2.2.2.2 p hp
    have agx : ag n σ (sgX σ σX n) := fun i hi => if_pos hi
    split at hk
    · refine ⟨_, sgX σ σX n, hk, fin st (fun τ hτ => ?_), Nat.le_add_right _ _, agx⟩
      obtain ⟨G, GX, e0⟩ := base τ hτ
      rw [GX.1.2, G.1.2]
      rfl
    · rename_i v
      rw [rnV_eq] at hk
      refine ⟨_, sgX σ σX n, hk, fin _ (fun τ hτ => ?_), Nat.le_add_right _ _, agx⟩
      obtain ⟨G, GX, e0⟩ := base τ hτ
      rw [GX.1.2, G.1.2]
      show .inl (cv (fun i => τ (ren n i)) v) :: cs τ st = .inl (cv τ (rv n v)) :: cs τ st
      rw [cv_rv]
    · cases hk
  · cases hk
