/-! THE CHECKER'S STEPS, part six: fields and arrays -/
def zmem : List Nat → Nat → Bool
  | [], _ => false
  | q :: t, p => match Nat.beq q p with
    | true => true
    | false => zmem t p
theorem zmem_ok : ∀ {l : List Nat} {p : Nat}, zmem l p = true → p ∈ l
  | [], p, h => by cases h
  | q :: t, p, h => by
    rw [zmem] at h
    split at h
    · rename_i e
      rw [← Nat.eq_of_beq_eq_true e]
      exact List.mem_cons_self
    · exact List.mem_cons_of_mem _ (zmem_ok h)
theorem zg_set {hp hp' : List (Nat × zC)} {p : Nat} {c : zC} (h : ∀ q, zlc hp' q = if q = p then some c else zlc hp q) (q : Nat) : zg hp' q = if q = p then some c else zg hp q := by
  unfold zg
  rw [h q]
  by_cases e : q = p
  · rw [if_pos e, if_pos e]
  · rw [if_neg e, if_neg e]
/-- the same heap, another word for a place -/
theorem mh_re {σ : Nat → Int} {hp hp' : List (Nat × zC)} {h : aH} (H : mh σ hp h) {p : Nat} {c : zC} {x : aE} (hx : h[p]? = some x) (hc : mc σ c x) (hz : ∀ q, zlc hp' q = if q = p then some c else zlc hp q) : mh σ hp' h := fun q d hd => by
  rw [zg_set hz q] at hd
  by_cases e : q = p
  · rw [if_pos e] at hd
    cases hd
    exact ⟨x, by rw [e]; exact hx, hc⟩
  · rw [if_neg e] at hd
    exact H q d hd
/-- a place changes -/
theorem mh_ch {σ : Nat → Int} {hp hp' : List (Nat × zC)} {h : aH} (H : mh σ hp h) {p : Nat} {c : zC} {x y : aE} (hx : h[p]? = some x) (hc : mc σ c y) (hz : ∀ q, zlc hp' q = if q = p then some c else zlc hp q) : mh σ hp' (h.set p y) := fun q d hd => by
  rw [zg_set hz q] at hd
  have lp : p < h.length := (List.getElem?_eq_some_iff.mp hx).1
  by_cases e : q = p
  · rw [if_pos e] at hd
    cases hd
    refine ⟨y, ?_, hc⟩
    rw [e, List.getElem?_set_self lp]
  · rw [if_neg e] at hd
    obtain ⟨z, h1, h2⟩ := H q d hd
    exact ⟨z, by rw [List.getElem?_set_ne (fun z => e z.symm)]; exact h1, h2⟩
theorem fr_set {K : zK} {h : aH} (H : ∀ p, p ∉ K.2.2 → h[p]? = K.2.1[p]?) {p : Nat} (hp : p ∈ K.2.2) (y : aE) : ∀ q, q ∉ K.2.2 → (h.set p y)[q]? = K.2.1[q]? := fun q hq => by
  rw [List.getElem?_set_ne (fun e => hq (by rw [← e]; exact hp))]
  exact H q hq
theorem set_me {α : Type} {σ : Nat → Int} {L : List zE} {l : List α} {w : α → Value} (hl : L.length = l.length) (H : ∀ (i : Nat) (e : zE) (x : α), L[i]? = some e → l[i]? = some x → me σ e (w x)) (k : Nat) {e : zE} {v : α} (he : me σ e (w v)) : (L.set k e).length = (l.set k v).length ∧ ∀ (i : Nat) (e' : zE) (x : α), (L.set k e)[i]? = some e' → (l.set k v)[i]? = some x → me σ e' (w x) := by
  refine ⟨by rw [List.length_set, List.length_set]; exact hl, fun i e' x hi hx => ?_⟩
  rw [List.getElem?_set] at hi hx
  by_cases q : k = i
  · subst q
    rw [if_pos rfl] at hi hx
    split at hi
    · split at hx
      · cases hi
        cases hx
        exact he
      · cases hx
    · cases hi
  · rw [if_neg q] at hi hx
    exact H i e' x hi hx
/-- the same list, another word for an element -/
theorem re_me {α : Type} {σ : Nat → Int} {L : List zE} {l : List α} {w : α → Value} (hl : L.length = l.length) (H : ∀ (i : Nat) (e : zE) (x : α), L[i]? = some e → l[i]? = some x → me σ e (w x)) (k : Nat) {e : zE} {v : α} (hv : l[k]? = some v) (he : me σ e (w v)) : (L.set k e).length = l.length ∧ ∀ (i : Nat) (e' : zE) (x : α), (L.set k e)[i]? = some e' → l[i]? = some x → me σ e' (w x) := by
  refine ⟨by rw [List.length_set]; exact hl, fun i e' x hi hx => ?_⟩
  rw [List.getElem?_set] at hi
  by_cases q : k = i
  · subst q
    rw [if_pos rfl] at hi
    split at hi
    · cases hi
      rw [hv] at hx
      cases hx
      exact he
    · cases hi
  · rw [if_neg q] at hi
    exact H i e' x hi hx
theorem ms.hp {K : zK} {σ : Nat → Int} {l : List (Nat × zV)} {st : List zV} {hp : List (Nat × zC)} {B : zB} {F : List zF} {n : Nat} {lv : aL} {sc : List aV} {h : aH} (H : ms K σ (l, st, hp, B, F, n) lv sc h) : ∀ τ, ag n σ τ → mh τ hp h := fun τ hτ => (H τ hτ).2.1
def tGe (ci f n : Nat) : zT := fun _ s k => match s with
  | (l, (2, p, _) :: r, hp, B, F, m) => match zg hp p with
    | some (.inr (.inr (.inr (.inr (cj, Fs))))) => match Nat.beq cj ci with
      | true => match Fs[f]? with
        | some (.inr v) => k (.inl (n, (l, v :: r, hp, B, F, m)))
        | some (.inl (lo, hi)) => zN 0 B m lo hi (fun v B m => setF Fs f (.inr v) (fun Fs' => zset hp p (.inr (.inr (.inr (.inr (cj, Fs'))))) (fun hp' => k (.inl (n, (l, v :: r, hp', B, F, m))))))
        | none => false
      | false => false
    | _ => false
  | _ => false
theorem d_Ge {ci f n : Nat} : Sd (oGe ci f n) (tGe ci f n) := by
  intro K σ s lv st h H k hk
  obtain ⟨l, st0, hp, B, F, m⟩ := s
  unfold tGe at hk
  split at hk
  · rename_i l1 p o r hp1 B1 F1 m1 e
    cases e
    split at hk
    · rename_i cj Fs hg
      split at hk
      · rename_i hb
        have hb := Nat.eq_of_beq_eq_true hb
        subst hb
        obtain ⟨x, hx, mx⟩ := H.hp σ ag.rf p _ hg
        obtain ⟨fs, rfl, hlen, -⟩ := mc_obj mx
        have all : ∀ τ, ag m σ τ → ∀ (i : Nat) (e : zE) (y : Value), Fs[i]? = some e → fs[i]? = some y → me τ e y := fun τ hτ => by
          obtain ⟨x', hx', mx'⟩ := H.hp τ hτ p _ hg
          rw [hx] at hx'
          cases hx'
          exact mx'.2.2
        have ho : ∀ v, fs[f]? = some v → oGe cj f n lv st h = some (.inl (n, lv, .inl v :: cs σ r, h, 0, 0)) := fun v hv => by
          rw [H.st σ ag.rf]
          show oGe cj f n lv (.inl (.ref p) :: cs σ r) h = _
          unfold oGe
          dsimp only
          rw [hx]
          dsimp only
          rw [show Nat.beq cj cj = true by simp]
          dsimp only
          rw [hv]
          rfl
        split at hk
        · rename_i v hf
          have lf : f < fs.length := by rw [← hlen]; exact (List.getElem?_eq_some_iff.mp hf).1
          have hv := List.getElem?_eq_getElem lf
          refine So.go H hk (ho _ hv) (fun τ hτ q e _ _ => ⟨q, ?_⟩)
          have : fs[f] = cv τ v := all τ hτ f _ _ hf hv
          rw [cs_cons, ← this, cs_tl H.st τ hτ]
        · rename_i lo hi hf
          have lf : f < fs.length := by rw [← hlen]; exact (List.getElem?_eq_some_iff.mp hf).1
          have hv := List.getElem?_eq_getElem lf
          obtain ⟨z, ez, z1, z2⟩ : ∃ z : Int32, fs[f] = .int z ∧ lo ≤ z.toInt ∧ z.toInt ≤ hi := all σ ag.rf f _ _ hf hv
          obtain ⟨b, B', m', σ', a1, a2, a3, a4, a5⟩ := VP.int H hk z z1 z2
          dsimp only at a1
          rw [setF_eq] at a1
          obtain ⟨hp', zk, zz⟩ := zset_ok hp p (.inr (.inr (.inr (.inr (cj, Fs.set f (.inr b)))))) (fun hp' => k (.inl (n, (l, b :: r, hp', B', F, m'))))
          rw [zk] at a1
          refine ⟨_, a1, σ', lv, .inl (.int z) :: cs σ r, h, ho _ (by rw [hv, ez]), fun τ hτ => ?_, a4, a5⟩
          have G := a2 τ hτ
          have e1 := a3 τ hτ
          refine ⟨⟨G.1.1, ?_⟩, ?_, G.2.2⟩
          · rw [cs_cons, e1, cs_tl H.st τ (a5.tr hτ a4)]
          · refine mh_re (c := .inr (.inr (.inr (.inr (cj, Fs.set f (.inr b)))))) G.2.1 hx ⟨rfl, ?_⟩ zz
            refine re_me (w := id) (e := .inr b) hlen (all τ (a5.tr hτ a4)) f hv ?_
            show fs[f] = cv τ b
            rw [e1, ez]
        · cases hk
      · cases hk
    · cases hk
  · cases hk
def tPI (ci f n : Nat) : zT := fun md s k => match s with
  | (l, v :: (2, p, _) :: r, hp, B, F, m) => match zg hp p with
    | some (.inr (.inr (.inr (.inr (cj, Fs))))) => match Nat.beq cj ci, Fs[f]?, Nat.beq v.1 0, zmem md p with
      | true, some _, true, true => setF Fs f (.inr v) (fun Fs' => zset hp p (.inr (.inr (.inr (.inr (cj, Fs'))))) (fun hp' => k (.inl (n, (l, r, hp', B, F, m)))))
      | _, _, _, _ => false
    | _ => false
  | _ => false
theorem d_PI {ci f n : Nat} : Sd (oPI ci f n) (tPI ci f n) := by
  intro K σ s lv st h H k hk
  obtain ⟨l, st0, hp, B, F, m⟩ := s
  unfold tPI at hk
  split at hk
  · rename_i l1 v p o r hp1 B1 F1 m1 e
    cases e
    split at hk
    · rename_i cj Fs hg
      split at hk
      · rename_i e0 hb hf hv0 hm
        have hb := Nat.eq_of_beq_eq_true hb
        subst hb
        have hv0 := Nat.eq_of_beq_eq_true hv0
        have hm := zmem_ok hm
        obtain ⟨x, hx, mx⟩ := H.hp σ ag.rf p _ hg
        obtain ⟨fs, rfl, hlen, -⟩ := mc_obj mx
        have lf : f < fs.length := by rw [← hlen]; exact (List.getElem?_eq_some_iff.mp hf).1
        have hfv := List.getElem?_eq_getElem lf
        obtain ⟨t, i, a⟩ := v
        dsimp only at hv0
        subst hv0
        rw [setF_eq] at hk
        obtain ⟨hp', zk, zz⟩ := zset_ok hp p (.inr (.inr (.inr (.inr (cj, Fs.set f (.inr (0, i, a))))))) (fun hp' => k (.inl (n, (l, r, hp', B, F, m))))
        rw [zk] at hk
        refine ⟨_, hk, σ, lv, cs σ r, h.set p (.inr (.inr (.inr (cj, fs.set f (cv σ (0, i, a)))))), ?_, fun τ hτ => ?_, Nat.le_refl _, ag.rf⟩
        · rw [H.st σ ag.rf]
          show oPI cj f n lv (.inl (.int (Int32.ofInt (σ i + a))) :: .inl (.ref p) :: cs σ r) h = _
          unfold oPI
          dsimp only
          rw [hx]
          dsimp only
          rw [show Nat.beq cj cj = true by simp]
          dsimp only
          rw [hfv]
          dsimp only
          rw [setF_eq, setF_eq]
          rfl
        · have G := H τ hτ
          refine ⟨⟨G.1.1, cs_tl (cs_tl H.st) τ hτ⟩, ?_, G.2.2.1, G.2.2.2.1, G.2.2.2.2.1, fr_set G.2.2.2.2.2 hm _⟩
          obtain ⟨x', hx', mx'⟩ := G.2.1 p _ hg
          rw [hx] at hx'
          cases hx'
          exact mh_ch (c := .inr (.inr (.inr (.inr (cj, Fs.set f (.inr (0, i, a))))))) G.2.1 hx ⟨rfl, set_me (w := id) (e := .inr (0, i, a)) hlen mx'.2.2 f (by show cv σ (0, i, a) = cv τ (0, i, a); rw [cs_hd H.st τ hτ])⟩ zz
      · cases hk
    · cases hk
  · cases hk
theorem mc_ints {σ : Nat → Int} {L : List zE} {x : aE} (h : mc σ (.inl L) x) : ∃ l, x = .inl l ∧ L.length = l.length ∧ ∀ (i : Nat) (e : zE) (y : Int32), L[i]? = some e → l[i]? = some y → me σ e (.int y) := by
  rcases x with l | x
  · exact ⟨l, rfl, h⟩
  · exact h.elim
theorem mc_uni {σ : Nat → Int} {q : Nat × Int × Int} {x : aE} (h : mc σ (.inr (.inl q)) x) : ∃ l, x = .inl l ∧ l.length = q.1 ∧ ∀ y ∈ l, q.2.1 ≤ y.toInt ∧ y.toInt ≤ q.2.2 := by
  obtain ⟨a, b, c⟩ := q
  rcases x with l | x
  · exact ⟨l, rfl, h⟩
  · exact h.elim
/-- bounds of an element -/
def zeb (B : zB) (e : zE) (k : Int → Int → Bool) : Bool := match e with
  | .inl (a, b) => k a b
  | .inr v => zI B v k
theorem zeb_ok {B : zB} {e : zE} {k : Int → Int → Bool} (h : zeb B e k = true) : ∃ a b, k a b = true ∧ ∀ σ, mB σ B → σ 1 = 0 → ∀ z : Int32, me σ e (.int z) → a ≤ z.toInt ∧ z.toInt ≤ b := by
  rcases e with ⟨a, b⟩ | v
  · refine ⟨a, b, h, fun σ _ _ z hz => ?_⟩
    obtain ⟨z', e, q⟩ := hz
    cases e
    exact q
  · obtain ⟨lo, hi, hk, -, -, H⟩ := zI_ok h
    refine ⟨lo, hi, hk, fun σ hB h1 z hz => ?_⟩
    obtain ⟨x, e, -, q⟩ := H σ hB h1
    have hz : Value.int z = cv σ v := hz
    rw [e] at hz
    cases hz
    exact q
/-- bounds of the first n + 1 of them -/
def zhl (B : zB) : List zE → Nat → (Int → Int → Bool) → Bool
  | [], _, _ => false
  | e :: _, 0, k => zeb B e k
  | e :: t, n + 1, k => zeb B e (fun a b => zhl B t n (fun c d => frZ (imin a c) (fun x => frZ (imax b d) (fun y => k x y))))
theorem imin_l {a b : Int} : imin a b ≤ a := by unfold imin; cases p : ile a b <;> dsimp only <;> first | (have := ile_f p; omega) | omega
theorem imin_r {a b : Int} : imin a b ≤ b := by unfold imin; cases p : ile a b <;> dsimp only <;> first | (have := ile_le p; omega) | omega
theorem imax_l {a b : Int} : a ≤ imax a b := by unfold imax; cases p : ile a b <;> dsimp only <;> first | (have := ile_le p; omega) | omega
theorem imax_r {a b : Int} : b ≤ imax a b := by unfold imax; cases p : ile a b <;> dsimp only <;> first | (have := ile_f p; omega) | omega
theorem zhl_ok {B : zB} : ∀ (L : List zE) (n : Nat) (k : Int → Int → Bool), zhl B L n k = true → ∃ a b, k a b = true ∧ n < L.length ∧ ∀ σ, mB σ B → σ 1 = 0 → ∀ (i : Nat) (e : zE) (z : Int32), i ≤ n → L[i]? = some e → me σ e (.int z) → a ≤ z.toInt ∧ z.toInt ≤ b
  | [], n, k, h => by cases h
  | e :: t, 0, k, h => by
    obtain ⟨a, b, hk, H⟩ := zeb_ok (show zeb B e k = true from h)
    refine ⟨a, b, hk, Nat.zero_lt_succ _, fun σ hB h1 i e' z hi he hz => ?_⟩
    have : i = 0 := Nat.le_zero.mp hi
    subst this
    cases he
    exact H σ hB h1 z hz
  | e :: t, n + 1, k, h => by
    obtain ⟨a, b, hk, H⟩ := zeb_ok (show zeb B e _ = true from h)
    obtain ⟨c, d, hk, hn, H2⟩ := zhl_ok t n _ hk
    rw [frZ_eq, frZ_eq] at hk
    refine ⟨_, _, hk, Nat.succ_lt_succ hn, fun σ hB h1 i e' z hi he hz => ?_⟩
    match i, hi, he with
    | 0, _, he =>
      cases he
      have := H σ hB h1 z hz
      exact ⟨Int.le_trans imin_l this.1, Int.le_trans this.2 imax_l⟩
    | i + 1, hi, he =>
      have := H2 σ hB h1 i e' z (Nat.le_of_succ_le_succ hi) he hz
      exact ⟨Int.le_trans imin_r this.1, Int.le_trans this.2 imax_r⟩
/-- an int out of an array -/
def tAI (n : Nat) : zT := fun _ s k => match s with
  | (l, j :: (2, p, _) :: r, hp, B, F, m) => zI B j (fun lo hi => match ile 0 lo with
    | true => match zg hp p with
      | some (.inr (.inl (q, a, b))) => match ile (hi + 1) (.ofNat q) with
        | true => zN 0 B m a b (fun v B m => k (.inl (n, (l, v :: r, hp, B, F, m))))
        | false => false
      | some (.inl L) => match ieq lo hi with
        | true => match L[lo.toNat]? with
          | some (.inr v) => match Nat.beq v.1 0 with
            | true => k (.inl (n, (l, v :: r, hp, B, F, m)))
            | false => false
          | some (.inl (a, b)) => zN 0 B m a b (fun v B m => frN lo.toNat (fun i => setF L i (.inr v) (fun L' => zset hp p (.inl L') (fun hp' => k (.inl (n, (l, v :: r, hp', B, F, m)))))))
          | none => false
        | false => zhl B (L.drop lo.toNat) (hi - lo).toNat (fun a b => zN 0 B m a b (fun v B m => k (.inl (n, (l, v :: r, hp, B, F, m)))))
      | _ => false
    | false => false)
  | _ => false
theorem oAI_eq {n : Nat} {lv : aL} {r : List aV} {h : aH} {p : Nat} {l : List Int32} {j x : Int32} (hx : h[p]? = some (.inl l)) (h0 : 0 ≤ j.toInt) (hj : l[j.toInt.toNat]? = some x) : oAI n lv (.inl (.int j) :: .inl (.ref p) :: r) h = some (.inl (n, lv, .inl (.int x) :: r, h, 0, 0)) := by
  unfold oAI
  dsimp only
  rw [hx]
  dsimp only
  rw [decide_eq_false (show ¬ j < 0 from fun q => by have := Int32.lt_iff_toInt_lt.mp q; have e : (0 : Int32).toInt = 0 := rfl; omega)]
  dsimp only
  rw [show l[j.toNatClampNeg]? = some x from hj]
  rfl
theorem d_AI {n : Nat} : Sd (oAI n) (tAI n) := by
  intro K σ s lv st h H k hk
  obtain ⟨l, st0, hp, B, F, m⟩ := s
  unfold tAI at hk
  split at hk
  · rename_i l1 j p o r hp1 B1 F1 m1 e
    cases e
    obtain ⟨lo, hi, hk, jj, ej, j1, j2, Tj⟩ := zI_st H (cs_hd H.st) hk
    have e1 := H.st σ ag.rf
    rw [cs_cons, cs_cons, ej] at e1
    have e1 : st = .inl (.int jj) :: .inl (.ref p) :: cs σ r := e1
    split at hk
    · rename_i q0
      have q0 := ile_le q0
      have j0 : 0 ≤ jj.toInt := by omega
      split at hk
      · rename_i q a b hg
        split at hk
        · rename_i q1
          have q1 : hi + 1 ≤ (q : Int) := ile_le q1
          obtain ⟨x, hx, mx⟩ := H.hp σ ag.rf p _ hg
          obtain ⟨la, rfl, ll, lb⟩ := mc_uni mx
          have li : jj.toInt.toNat < la.length := by rw [ll]; dsimp only; omega
          have hv := List.getElem?_eq_getElem li
          have bd := lb _ (List.getElem_mem li)
          exact So.push (rc := cs σ r) (VP.int H hk _ bd.1 bd.2) (cs_tl (cs_tl H.st)) (by rw [e1]; exact oAI_eq hx j0 hv)
        · cases hk
      · rename_i L hg
        obtain ⟨x, hx, mx⟩ := H.hp σ ag.rf p _ hg
        obtain ⟨la, rfl, ll, -⟩ := mc_ints mx
        have all : ∀ τ, ag m σ τ → ∀ (i : Nat) (e : zE) (y : Int32), L[i]? = some e → la[i]? = some y → me τ e (.int y) := fun τ hτ => by
          obtain ⟨x', hx', mx'⟩ := H.hp τ hτ p _ hg
          rw [hx] at hx'
          cases hx'
          exact mx'.2
        split at hk
        · rename_i q1
          have q1 := ieq_eq q1
          have ejn : jj.toInt.toNat = lo.toNat := by omega
          split at hk
          · rename_i v hf
            split at hk
            · have li : jj.toInt.toNat < la.length := by rw [ejn, ← ll]; exact (List.getElem?_eq_some_iff.mp hf).1
              have hv := List.getElem?_eq_getElem li
              rw [← ejn] at hf
              refine So.go H hk (by rw [e1]; exact oAI_eq hx j0 hv) (fun τ hτ q e _ _ => ⟨q, ?_⟩)
              have : Value.int (la[jj.toInt.toNat]) = cv τ v := all τ hτ _ _ _ hf hv
              rw [cs_cons, ← this, cs_tl (cs_tl H.st) τ hτ]
            · cases hk
          · rename_i a b hf
            have li : jj.toInt.toNat < la.length := by rw [ejn, ← ll]; exact (List.getElem?_eq_some_iff.mp hf).1
            have hv := List.getElem?_eq_getElem li
            rw [← ejn] at hf
            obtain ⟨z, ez, z1, z2⟩ : ∃ z : Int32, Value.int (la[jj.toInt.toNat]) = .int z ∧ a ≤ z.toInt ∧ z.toInt ≤ b := all σ ag.rf _ _ _ hf hv
            cases ez
            obtain ⟨bb, B', m', σ', a1, a2, a3, a4, a5⟩ := VP.int H hk _ z1 z2
            dsimp only at a1
            rw [frN_eq, setF_eq, ← ejn] at a1
            obtain ⟨hp', zk, zz⟩ := zset_ok hp p (.inl (L.set jj.toInt.toNat (.inr bb))) (fun hp' => k (.inl (n, (l, bb :: r, hp', B', F, m'))))
            rw [zk] at a1
            refine ⟨_, a1, σ', lv, _, h, by rw [e1]; exact oAI_eq hx j0 hv, fun τ hτ => ?_, a4, a5⟩
            have G := a2 τ hτ
            have e2 := a3 τ hτ
            refine ⟨⟨G.1.1, ?_⟩, ?_, G.2.2⟩
            · rw [cs_cons, e2, cs_tl (cs_tl H.st) τ (a5.tr hτ a4)]
            · exact mh_re (c := .inl (L.set jj.toInt.toNat (.inr bb))) G.2.1 hx (re_me (w := Value.int) (e := .inr bb) ll (all τ (a5.tr hτ a4)) _ hv e2.symm) zz
          · cases hk
        · obtain ⟨a, b, hk, hn, Hb⟩ := zhl_ok _ _ _ hk
          rw [List.length_drop] at hn
          have li : jj.toInt.toNat < la.length := by rw [← ll]; omega
          have hv := List.getElem?_eq_getElem li
          have lL : jj.toInt.toNat < L.length := by rw [ll]; exact li
          have hL := List.getElem?_eq_getElem lL
          have G := H σ ag.rf
          have bd := Hb σ G.2.2.1 G.2.2.2.2.1.1 (jj.toInt.toNat - lo.toNat) _ _ (by omega) (by rw [List.getElem?_drop, show lo.toNat + (jj.toInt.toNat - lo.toNat) = jj.toInt.toNat by omega]; exact hL) (all σ ag.rf _ _ _ hL hv)
          exact So.push (rc := cs σ r) (VP.int H hk _ bd.1 bd.2) (cs_tl (cs_tl H.st)) (by rw [e1]; exact oAI_eq hx j0 hv)
      · cases hk
    · cases hk
  · cases hk
