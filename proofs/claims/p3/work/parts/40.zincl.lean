/-! THE CHECKER: a state is one that a pattern T speaks of. The pattern's symbols are found on the way (th: symbol, symbol there, plus). -/
abbrev zH : Type := List (Nat × Nat × Int)
def zlt : zH → Nat → Option (Nat × Int)
  | [], _ => none
  | q :: t, i => match Nat.beq q.1 i with
    | true => some q.2
    | false => zlt t i
def thE (a b : zH) : Prop := ∀ i q, zlt a i = some q → zlt b i = some q
def thB (n : Nat) (a : zH) : Prop := ∀ i q, zlt a i = some q → i < n ∧ i ≠ 1
/-- the pattern's symbols as they are found -/
def TH (σ σT : Nat → Int) (th : zH) : Prop := ∀ i q, zlt th i = some q → σT i = σ q.1 + q.2
theorem thE.rf {a : zH} : thE a a := fun _ _ h => h
theorem thE.tr {a b c : zH} (h1 : thE a b) (h2 : thE b c) : thE a c := fun i q h => h2 i q (h1 i q h)
theorem TH.sub {σ σT : Nat → Int} {a b : zH} (h : TH σ σT b) (e : thE a b) : TH σ σT a := fun i q hi => h i q (e i q hi)
theorem zlt_cons {th : zH} {i : Nat} {q : Nat × Int} (h : zlt th i = none) : thE th ((i, q) :: th) := fun j r hj => by
  rw [zlt]
  cases hb : Nat.beq i j with
  | true =>
    rw [← Nat.eq_of_beq_eq_true hb, h] at hj
    cases hj
  | false => exact hj
/-- goal of a matching: on with more found, and then P -/
def ZM (B : zB) (n : Nat) (th : zH) (k : zH → Bool) (P : (Nat → Int) → (Nat → Int) → Prop) : Prop := thB n th → ∃ th', k th' = true ∧ thE th th' ∧ thB n th' ∧ ∀ σ σT, mB σ B → σ 1 = 0 → σT 1 = 0 → TH σ σT th' → P σ σT
theorem ZM.tr {B : zB} {n : Nat} {th : zH} {k k2 : zH → Bool} {P Q R : (Nat → Int) → (Nat → Int) → Prop} (h1 : ZM B n th k P) (h2 : ∀ th', k th' = true → ZM B n th' k2 Q) (h3 : ∀ σ σT, P σ σT → Q σ σT → R σ σT) : ZM B n th k2 R := fun hb => by
  obtain ⟨t1, a1, a2, a3, a4⟩ := h1 hb
  obtain ⟨t2, b1, b2, b3, b4⟩ := h2 t1 a1 a3
  exact ⟨t2, b1, a2.tr b2, b3, fun σ σT c1 c2 c3 c4 => h3 σ σT (a4 σ σT c1 c2 c3 (c4.sub b2)) (b4 σ σT c1 c2 c3 c4)⟩
theorem ZM.pure {B : zB} {n : Nat} {th : zH} {k : zH → Bool} {P : (Nat → Int) → (Nat → Int) → Prop} (hk : k th = true) (h : ∀ σ σT, mB σ B → σ 1 = 0 → σT 1 = 0 → TH σ σT th → P σ σT) : ZM B n th k P := fun hb => ⟨th, hk, thE.rf, hb, h⟩
theorem ZM.mono {B : zB} {n : Nat} {th : zH} {k : zH → Bool} {P Q : (Nat → Int) → (Nat → Int) → Prop} (h1 : ZM B n th k P) (h3 : ∀ σ σT, P σ σT → Q σ σT) : ZM B n th k Q := fun hb => by
  obtain ⟨t1, a1, a2, a3, a4⟩ := h1 hb
  exact ⟨t1, a1, a2, a3, fun σ σT c1 c2 c3 c4 => h3 σ σT (a4 σ σT c1 c2 c3 c4)⟩
def zmn (B : zB) (n : Nat) (th : zH) (tv sv : zV) (k : zH → Bool) : Bool := match Nat.beq tv.2.1 1 with
  | true => zvF B sv (fun a b => match ieq a tv.2.2, ieq b tv.2.2 with
    | true, true => k th
    | _, _ => false)
  | false => match zlt th tv.2.1 with
    | some q => match Nat.beq q.1 sv.2.1, ieq (q.2 + tv.2.2) sv.2.2 with
      | true, true => k th
      | _, _ => false
    | none => match Nat.blt tv.2.1 n with
      | true => frZ (sv.2.2 - tv.2.2) (fun d => k ((tv.2.1, sv.2.1, d) :: th))
      | false => false
def zmv (B : zB) (n : Nat) (th : zH) (tv sv : zV) (k : zH → Bool) : Bool := match tv.1, sv.1 with
  | 0, 0 => zmn B n th tv sv k
  | 1, 1 => zmn B n th tv sv k
  | 2, 2 => match Nat.beq tv.2.1 sv.2.1 with
    | true => k th
    | false => false
  | _, _ => false
theorem zmn_ok {B : zB} {n : Nat} {th : zH} {tv sv : zV} {k : zH → Bool} (h : zmn B n th tv sv k = true) : ZM B n th k (fun σ σT => σT tv.2.1 + tv.2.2 = σ sv.2.1 + sv.2.2) := by
  unfold zmn at h
  split at h
  · rename_i hb
    have hb := Nat.eq_of_beq_eq_true hb
    obtain ⟨a, b, hk, H⟩ := zvF_ok h
    split at hk
    · rename_i q1 q2
      have q1 := ieq_eq q1
      have q2 := ieq_eq q2
      refine ZM.pure hk (fun σ σT c1 c2 c3 _ => ?_)
      have := H σ c1 c2
      rw [hb]
      omega
    · cases hk
  · rename_i n1
    split at h
    · rename_i q hq
      split at h
      · rename_i q1 q2
        have q1 := Nat.eq_of_beq_eq_true q1
        have q2 := ieq_eq q2
        refine ZM.pure h (fun σ σT _ _ _ c4 => ?_)
        have := c4 _ _ hq
        rw [q1] at this
        omega
      · cases h
    · rename_i hq
      split at h
      · rename_i hn
        rw [frZ_eq] at h
        intro hb
        have hn : tv.2.1 < n := Nat.le_of_ble_eq_true hn
        have e : zlt ((tv.2.1, sv.2.1, sv.2.2 - tv.2.2) :: th) tv.2.1 = some (sv.2.1, sv.2.2 - tv.2.2) := by
          rw [zlt, show Nat.beq tv.2.1 tv.2.1 = true by simp]
        refine ⟨_, h, zlt_cons hq, fun i q hi => ?_, fun σ σT _ _ _ c4 => ?_⟩
        · rw [zlt] at hi
          split at hi
          · rename_i hb'
            rw [← Nat.eq_of_beq_eq_true hb']
            exact ⟨hn, fun e => by rw [show tv.2.1 = 1 from e] at n1; cases n1⟩
          · exact hb i q hi
        · have := c4 _ _ e
          dsimp only at this
          omega
      · cases h
theorem zmv_ok {B : zB} {n : Nat} {th : zH} {tv sv : zV} {k : zH → Bool} (h : zmv B n th tv sv k = true) : ZM B n th k (fun σ σT => cv σT tv = cv σ sv) := by
  obtain ⟨t, i, a⟩ := tv
  obtain ⟨t', i', a'⟩ := sv
  unfold zmv at h
  split at h
  · rename_i e1 e2
    dsimp only at e1 e2
    subst e1 e2
    refine (zmn_ok h).mono (fun σ σT q => ?_)
    have q : σT i + a = σ i' + a' := q
    show Value.int (Int32.ofInt (σT i + a)) = Value.int (Int32.ofInt (σ i' + a'))
    rw [q]
  · rename_i e1 e2
    dsimp only at e1 e2
    subst e1 e2
    refine (zmn_ok h).mono (fun σ σT q => ?_)
    have q : σT i + a = σ i' + a' := q
    show Value.long (Int64.ofInt (σT i + a)) = Value.long (Int64.ofInt (σ i' + a'))
    rw [q]
  · rename_i e1 e2
    dsimp only at e1 e2
    subst e1 e2
    split at h
    · rename_i q
      refine ZM.pure h (fun σ σT _ _ _ _ => ?_)
      have q : i = i' := Nat.eq_of_beq_eq_true q
      subst q
      rfl
    · cases h
  · cases h
-- locals and stack
def zml (B : zB) (n : Nat) (l : List (Nat × zV)) : List (Nat × zV) → zH → (zH → Bool) → Bool
  | [], th, k => k th
  | q :: t, th, k => match lz l q.1 with
    | some sv => zmv B n th q.2 sv (fun th => zml B n l t th k)
    | none => false
theorem zml_ok {B : zB} {n : Nat} {l : List (Nat × zV)} : ∀ (tl : List (Nat × zV)) (th : zH) (k : zH → Bool), zml B n l tl th k = true → ZM B n th k (fun σ σT => ∀ (i : Nat) (v : zV), lz tl i = some v → ∃ sv, lz l i = some sv ∧ cv σT v = cv σ sv)
  | [], th, k, h => ZM.pure h (fun σ σT _ _ _ _ i v hv => by cases hv)
  | q :: t, th, k, h => by
    rw [zml] at h
    split at h
    · rename_i sv hs
      refine (zmv_ok h).tr (fun th' hk => zml_ok t th' k hk) (fun σ σT h1 h2 i v hv => ?_)
      rw [lz] at hv
      split at hv
      · rename_i hb
        cases hv
        rw [← Nat.eq_of_beq_eq_true hb]
        exact ⟨sv, hs, h1⟩
      · exact h2 i v hv
    · cases h
def zms (B : zB) (n : Nat) : List zV → List zV → zH → (zH → Bool) → Bool
  | [], [], th, k => k th
  | a :: s, b :: t, th, k => zmv B n th a b (fun th => zms B n s t th k)
  | _, _, _, _ => false
theorem zms_ok {B : zB} {n : Nat} : ∀ (s t : List zV) (th : zH) (k : zH → Bool), zms B n s t th k = true → ZM B n th k (fun σ σT => cs σT s = cs σ t)
  | [], [], th, k, h => ZM.pure h (fun σ σT _ _ _ _ => rfl)
  | a :: s, b :: t, th, k, h => (zmv_ok (show zmv B n th a b _ = true from h)).tr (fun th' hk => zms_ok s t th' k hk) (fun σ σT h1 h2 => by rw [cs_cons, cs_cons, h1, h2])
  | [], _ :: _, th, k, h => by cases h
  | _ :: _, [], th, k, h => by cases h
-- the heap
def zme (B : zB) (n : Nat) (th : zH) (e s : zE) (k : zH → Bool) : Bool := match e with
  | .inl (lo, hi) => zeb B s (fun a b => match ile lo a, ile b hi with
    | true, true => k th
    | _, _ => false)
  | .inr tv => match s with
    | .inr sv => zmv B n th tv sv k
    | .inl _ => false
theorem zeb_int {B : zB} {e : zE} {k : Int → Int → Bool} (h : zeb B e k = true) {σ : Nat → Int} (hB : mB σ B) (h1 : σ 1 = 0) {y : Value} (hy : me σ e y) : ∃ z, y = .int z := by
  rcases e with q | v
  · obtain ⟨z, e, _⟩ := hy
    exact ⟨z, e⟩
  · obtain ⟨lo, hi, -, -, -, H⟩ := zI_ok h
    obtain ⟨x, e, -⟩ := H σ hB h1
    exact ⟨x, (show y = cv σ v from hy).trans e⟩
theorem zme_ok {B : zB} {n : Nat} {th : zH} {e s : zE} {k : zH → Bool} (h : zme B n th e s k = true) : ZM B n th k (fun σ σT => mB σ B → σ 1 = 0 → ∀ y, me σ s y → me σT e y) := by
  rcases e with ⟨lo, hi⟩ | tv
  · have h' : zeb B s (fun a b => match ile lo a, ile b hi with
      | true, true => k th
      | _, _ => false) = true := h
    obtain ⟨a, b, hk, H⟩ := zeb_ok h'
    split at hk
    · rename_i q1 q2
      have q1 := ile_le q1
      have q2 := ile_le q2
      refine ZM.pure hk (fun σ σT _ _ _ _ c1 c2 y hy => ?_)
      obtain ⟨z, rfl⟩ := zeb_int h' c1 c2 hy
      have := H σ c1 c2 z hy
      exact ⟨z, rfl, by omega, by omega⟩
    · cases hk
  · rcases s with q | sv
    · cases h
    · refine (zmv_ok (show zmv B n th tv sv k = true from h)).mono (fun σ σT q _ _ y hy => ?_)
      exact (show y = cv σ sv from hy).trans q.symm
def zmE (B : zB) (n : Nat) : List zE → List zE → zH → (zH → Bool) → Bool
  | [], [], th, k => k th
  | a :: s, b :: t, th, k => zme B n th a b (fun th => zmE B n s t th k)
  | _, _, _, _ => false
theorem zmE_ok {B : zB} {n : Nat} : ∀ (L M : List zE) (th : zH) (k : zH → Bool), zmE B n L M th k = true → ZM B n th k (fun σ σT => L.length = M.length ∧ (mB σ B → σ 1 = 0 → ∀ (i : Nat) (e : zE), L[i]? = some e → ∃ s, M[i]? = some s ∧ ∀ y, me σ s y → me σT e y))
  | [], [], th, k, h => ZM.pure h (fun σ σT _ _ _ _ => ⟨rfl, fun _ _ i e he => by simp at he⟩)
  | a :: s, b :: t, th, k, h => (zme_ok (show zme B n th a b _ = true from h)).tr (fun th' hk => zmE_ok s t th' k hk) (fun σ σT h1 h2 => by
    refine ⟨by rw [List.length_cons, List.length_cons, h2.1], fun c1 c2 i e he => ?_⟩
    match i, he with
    | 0, he =>
      cases he
      exact ⟨b, rfl, h1 c1 c2⟩
    | i + 1, he => exact h2.2 c1 c2 i e he)
  | [], _ :: _, th, k, h => by cases h
  | _ :: _, [], th, k, h => by cases h
def zeqN : List Nat → List Nat → Bool
  | [], [] => true
  | a :: s, b :: t => match Nat.beq a b with
    | true => zeqN s t
    | false => false
  | _, _ => false
theorem zeqN_ok : ∀ {s t : List Nat}, zeqN s t = true → s = t
  | [], [], _ => rfl
  | a :: s, b :: t, h => by
    rw [zeqN] at h
    split at h
    · rename_i q
      rw [Nat.eq_of_beq_eq_true q, zeqN_ok h]
    · cases h
  | [], _ :: _, h => by cases h
  | _ :: _, [], h => by cases h
def zmc (B : zB) (n : Nat) (th : zH) (c d : zC) (k : zH → Bool) : Bool := match c, d with
  | .inl L, .inl M => zmE B n L M th k
  | .inr (.inl (q, lo, hi)), .inr (.inl (r, a, b)) => match Nat.beq q r, ile lo a, ile b hi with
    | true, true, true => k th
    | _, _, _ => false
  | .inr (.inr (.inl q)), .inr (.inr (.inl r)) => match Nat.beq q r with
    | true => k th
    | false => false
  | .inr (.inr (.inr (.inl L))), .inr (.inr (.inr (.inl M))) => match zeqN L M with
    | true => k th
    | false => false
  | .inr (.inr (.inr (.inr (ci, L)))), .inr (.inr (.inr (.inr (cj, M)))) => match Nat.beq ci cj with
    | true => zmE B n L M th k
    | false => false
  | _, _ => false
theorem zmc_ok {B : zB} {n : Nat} {th : zH} {c d : zC} {k : zH → Bool} (h : zmc B n th c d k = true) : ZM B n th k (fun σ σT => mB σ B → σ 1 = 0 → ∀ x, mc σ d x → mc σT c x) := by
  unfold zmc at h
  split at h
  · rename_i L M
    refine (zmE_ok L M th k h).mono (fun σ σT q c1 c2 x hx => ?_)
    obtain ⟨l, rfl, ll, H⟩ := mc_ints hx
    refine ⟨by rw [q.1]; exact ll, fun i e y he hy => ?_⟩
    obtain ⟨s, hs, H2⟩ := q.2 c1 c2 i e he
    exact H2 _ (H i s y hs hy)
  · rename_i q lo hi r a b
    split at h
    · rename_i q1 q2 q3
      have q1 := Nat.eq_of_beq_eq_true q1
      have q2 := ile_le q2
      have q3 := ile_le q3
      refine ZM.pure h (fun σ σT _ _ _ _ c1 c2 x hx => ?_)
      obtain ⟨l, rfl, ll, H⟩ := mc_uni hx
      refine ⟨by rw [q1]; exact ll, fun y hy => ?_⟩
      have := H y hy
      dsimp only at this
      omega
    · cases h
  · rename_i q r
    split at h
    · rename_i q1
      have q1 := Nat.eq_of_beq_eq_true q1
      refine ZM.pure h (fun σ σT _ _ _ _ c1 c2 x hx => ?_)
      obtain ⟨l, rfl, ll⟩ := mc_longs hx
      show l.length = q
      rw [q1]
      exact ll
    · cases h
  · rename_i L M
    split at h
    · rename_i q1
      have q1 := zeqN_ok q1
      refine ZM.pure h (fun σ σT _ _ _ _ c1 c2 x hx => ?_)
      rw [mc_refs hx, q1]
      rfl
    · cases h
  · rename_i ci L cj M
    split at h
    · rename_i q1
      have q1 := Nat.eq_of_beq_eq_true q1
      refine (zmE_ok L M th k h).mono (fun σ σT q c1 c2 x hx => ?_)
      obtain ⟨fs, rfl, ll, H⟩ := mc_obj hx
      refine ⟨q1, by rw [q.1]; exact ll, fun i e y he hy => ?_⟩
      obtain ⟨s, hs, H2⟩ := q.2 c1 c2 i e he
      exact H2 _ (H i s y hs hy)
    · cases h
  · cases h
/-- the pattern's own cells -/
def zm1 (B : zB) (n : Nat) (hp : List (Nat × zC)) : List (Nat × zC) → zH → (zH → Bool) → Bool
  | [], th, k => k th
  | q :: t, th, k => match zg hp q.1 with
    | some d => zmc B n th q.2 d (fun th => zm1 B n hp t th k)
    | none => false
theorem zm1_ok {B : zB} {n : Nat} {hp : List (Nat × zC)} : ∀ (T : List (Nat × zC)) (th : zH) (k : zH → Bool), zm1 B n hp T th k = true → ZM B n th k (fun σ σT => mB σ B → σ 1 = 0 → ∀ (p : Nat) (c : zC), zlc T p = some c → ∃ d, zg hp p = some d ∧ ∀ x, mc σ d x → mc σT c x)
  | [], th, k, h => ZM.pure h (fun σ σT _ _ _ _ _ _ p c hc => by cases hc)
  | q :: t, th, k, h => by
    rw [zm1] at h
    split at h
    · rename_i d hd
      refine (zmc_ok h).tr (fun th' hk => zm1_ok t th' k hk) (fun σ σT h1 h2 c1 c2 p c hc => ?_)
      rw [zlc] at hc
      split at hc
      · rename_i hb
        cases hc
        rw [← Nat.eq_of_beq_eq_true hb]
        exact ⟨d, hd, h1 c1 c2⟩
      · exact h2 c1 c2 p c hc
    · cases h
/-- cells of the state that the pattern leaves as they are between calls -/
def zm2 (B : zB) (n : Nat) (T : List (Nat × zC)) : List (Nat × zC) → zH → (zH → Bool) → Bool
  | [], th, k => k th
  | q :: t, th, k => match zlc T q.1 with
    | some _ => zm2 B n T t th k
    | none => match zD q.1 with
      | some c => zmc B n th c q.2 (fun th => zm2 B n T t th k)
      | none => zm2 B n T t th k
theorem zm2_ok {B : zB} {n : Nat} {T : List (Nat × zC)} : ∀ (hp : List (Nat × zC)) (th : zH) (k : zH → Bool), zm2 B n T hp th k = true → ZM B n th k (fun σ σT => mB σ B → σ 1 = 0 → ∀ (p : Nat) (c d : zC), zlc T p = none → zD p = some c → zlc hp p = some d → ∀ x, mc σ d x → mc σT c x)
  | [], th, k, h => ZM.pure h (fun σ σT _ _ _ _ _ _ p c d _ _ hd => by cases hd)
  | q :: t, th, k, h => by
    rw [zm2] at h
    split at h
    · rename_i c0 hc0
      refine (zm2_ok t th k h).mono (fun σ σT h2 c1 c2 p c d hT hD hd => ?_)
      rw [zlc] at hd
      split at hd
      · rename_i hb
        rw [← Nat.eq_of_beq_eq_true hb, hc0] at hT
        cases hT
      · exact h2 c1 c2 p c d hT hD hd
    · split at h
      · rename_i c0 hc0
        refine (zmc_ok h).tr (fun th' hk => zm2_ok t th' k hk) (fun σ σT h1 h2 c1 c2 p c d hT hD hd => ?_)
        rw [zlc] at hd
        split at hd
        · rename_i hb
          cases hd
          rw [← Nat.eq_of_beq_eq_true hb, hc0] at hD
          cases hD
          exact h1 c1 c2
        · exact h2 c1 c2 p c d hT hD hd
      · rename_i hc0
        refine (zm2_ok t th k h).mono (fun σ σT h2 c1 c2 p c d hT hD hd => ?_)
        rw [zlc] at hd
        split at hd
        · rename_i hb
          rw [← Nat.eq_of_beq_eq_true hb, hc0] at hD
          cases hD
        · exact h2 c1 c2 p c d hT hD hd
