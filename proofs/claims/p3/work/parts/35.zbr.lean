/-! THE CHECKER'S STEPS, part four: branches -/
def rel (R : Nat) (x y : Int) : Prop := match R with
  | 0 => x < y
  | 1 => x ≤ y
  | 2 => x = y
  | 3 => x ≠ y
  | 4 => y < x
  | _ => y ≤ x
def ngR (R : Nat) : Nat := match R with
  | 0 => 5
  | 1 => 4
  | 2 => 3
  | 3 => 2
  | 4 => 1
  | _ => 0
theorem rel_ng (R : Nat) (x y : Int) (h : ¬ rel R x y) : rel (ngR R) x y := by
  match R with
  | 0 => exact Int.not_lt.mp h
  | 1 => exact Int.not_le.mp h
  | 2 => exact h
  | 3 => exact Classical.not_not.mp h
  | 4 => exact Int.not_lt.mp h
  | R + 5 => exact Int.not_le.mp h
def relb (R : Nat) (x y : Int) : Bool := match R with
  | 0 => match ile y x with
    | true => false
    | false => true
  | 1 => ile x y
  | 2 => ieq x y
  | 3 => match ieq x y with
    | true => false
    | false => true
  | 4 => match ile x y with
    | true => false
    | false => true
  | _ => ile y x
theorem eq_ieq {a b : Int} (h : a = b) : ieq a b = true := by
  subst h
  match a with
  | .ofNat n => show Nat.beq n n = true; simp
  | .negSucc n => show Nat.beq n n = true; simp
theorem relb_f {R : Nat} {x y : Int} (h : relb R x y = false) : ¬ rel R x y := by
  match R, h with
  | 0, h =>
    have h : (match ile y x with
      | true => false
      | false => true) = false := h
    split at h
    · rename_i q; have := ile_le q; show ¬ x < y; omega
    · cases h
  | 1, h => have := ile_f (show ile x y = false from h); show ¬ x ≤ y; omega
  | 2, h => intro e; rw [show relb 2 x y = ieq x y from rfl, eq_ieq e] at h; cases h
  | 3, h =>
    have h : (match ieq x y with
      | true => false
      | false => true) = false := h
    split at h
    · rename_i q; intro e; exact e (ieq_eq q)
    · cases h
  | 4, h =>
    have h : (match ile x y with
      | true => false
      | false => true) = false := h
    split at h
    · rename_i q; have := ile_le q; show ¬ y < x; omega
    · cases h
  | R + 5, h => have := ile_f (show ile y x = false from h); show ¬ y ≤ x; omega
def imin (a b : Int) : Int := match ile a b with
  | true => a
  | false => b
def imax (a b : Int) : Int := match ile a b with
  | true => b
  | false => a
theorem imin_le {a b z : Int} (h1 : z ≤ a) (h2 : z ≤ b) : z ≤ imin a b := by unfold imin; split <;> assumption
theorem imax_le {a b z : Int} (h1 : a ≤ z) (h2 : b ≤ z) : imax a b ≤ z := by unfold imax; split <;> assumption
def trim (p1 p2 q1 q2 : Int) : Int × Int := match ieq q1 q2 with
  | true => match ieq p1 q1 with
    | true => (p1 + 1, p2)
    | false => match ieq p2 q1 with
      | true => (p1, p2 - 1)
      | false => (p1, p2)
  | false => (p1, p2)
theorem trim_ok {p1 p2 q1 q2 x y : Int} (h1 : p1 ≤ x ∧ x ≤ p2) (h2 : q1 ≤ y ∧ y ≤ q2) (h : x ≠ y) : (trim p1 p2 q1 q2).1 ≤ x ∧ x ≤ (trim p1 p2 q1 q2).2 := by
  unfold trim
  split
  · rename_i a
    have a := ieq_eq a
    split
    · rename_i b
      have b := ieq_eq b
      show p1 + 1 ≤ x ∧ x ≤ p2
      omega
    · split
      · rename_i b
        have b := ieq_eq b
        show p1 ≤ x ∧ x ≤ p2 - 1
        omega
      · exact h1
  · exact h1
/-- bounds of two that stand so -/
def zrp (R : Nat) (p1 p2 q1 q2 : Int) : (Int × Int) × Int × Int := match R with
  | 0 => ((p1, imin p2 (q2 - 1)), imax q1 (p1 + 1), q2)
  | 1 => ((p1, imin p2 q2), imax q1 p1, q2)
  | 2 => ((imax p1 q1, imin p2 q2), imax p1 q1, imin p2 q2)
  | 3 => (trim p1 p2 q1 q2, trim q1 q2 p1 p2)
  | 4 => ((imax p1 (q1 + 1), p2), q1, imin q2 (p2 - 1))
  | _ => ((imax p1 q1, p2), q1, imin q2 p2)
theorem zrp_ok {R : Nat} {p1 p2 q1 q2 x y : Int} (h1 : p1 ≤ x ∧ x ≤ p2) (h2 : q1 ≤ y ∧ y ≤ q2) (h : rel R x y) : ((zrp R p1 p2 q1 q2).1.1 ≤ x ∧ x ≤ (zrp R p1 p2 q1 q2).1.2) ∧ (zrp R p1 p2 q1 q2).2.1 ≤ y ∧ y ≤ (zrp R p1 p2 q1 q2).2.2 := by
  match R, h with
  | 0, h => have h : x < y := h; exact ⟨⟨h1.1, imin_le h1.2 (by omega)⟩, imax_le h2.1 (by omega), h2.2⟩
  | 1, h => have h : x ≤ y := h; exact ⟨⟨h1.1, imin_le h1.2 (by omega)⟩, imax_le h2.1 (by omega), h2.2⟩
  | 2, h => have h : x = y := h; exact ⟨⟨imax_le h1.1 (by omega), imin_le h1.2 (by omega)⟩, imax_le (by omega) h2.1, imin_le (by omega) h2.2⟩
  | 3, h => exact ⟨trim_ok h1 h2 h, trim_ok h2 h1 (Ne.symm h)⟩
  | 4, h => have h : y < x := h; exact ⟨⟨imax_le h1.1 (by omega), h1.2⟩, h2.1, imin_le h2.2 (by omega)⟩
  | R + 5, h => have h : y ≤ x := h; exact ⟨⟨imax_le h1.1 (by omega), h1.2⟩, h2.1, imin_le h2.2 (by omega)⟩
def hFs (σ : Nat → Int) (F : List zF) : Prop := ∀ f ∈ F, hf σ f
/-- a fact 'j + d <= i' -/
def zf3 : List zF → Nat → Nat → Option Int
  | [], _, _ => none
  | f :: t, i, j => match Nat.beq f.1 3, Nat.beq f.2.1 i, Nat.beq f.2.2.1 j with
    | true, true, true => some f.2.2.2.2
    | _, _, _ => zf3 t i j
theorem zf3_ok {σ : Nat → Int} : ∀ {F : List zF} {i j : Nat} {d : Int}, hFs σ F → zf3 F i j = some d → σ j + d ≤ σ i
  | [], i, j, d, _, h => by cases h
  | f :: t, i, j, d, hF, h => by
    rw [zf3] at h
    split at h
    · rename_i a b c
      cases h
      have a' := Nat.eq_of_beq_eq_true a
      have b' := Nat.eq_of_beq_eq_true b
      have c' := Nat.eq_of_beq_eq_true c
      clear a b c
      obtain ⟨f1, f2, f3, f4, f5⟩ := f
      dsimp only at a' b' c'
      subst a' b' c'
      exact hF _ List.mem_cons_self
    · exact zf3_ok (fun f hf => hF f (List.mem_cons_of_mem _ hf)) h
/-- what a symbol compares -/
def zf2 : List zF → Nat → Option (Nat × Nat × Int)
  | [], _ => none
  | f :: t, r => match Nat.beq f.1 2, Nat.beq f.2.1 r with
    | true, true => some f.2.2
    | _, _ => zf2 t r
theorem zf2_ok {σ : Nat → Int} : ∀ {F : List zF} {r : Nat} {q : Nat × Nat × Int}, hFs σ F → zf2 F r = some q → (σ r = -1 ∧ σ q.1 < σ q.2.1 + q.2.2) ∨ (σ r = 0 ∧ σ q.1 = σ q.2.1 + q.2.2) ∨ (σ r = 1 ∧ σ q.2.1 + q.2.2 < σ q.1)
  | [], r, q, _, h => by cases h
  | f :: t, r, q, hF, h => by
    rw [zf2] at h
    split at h
    · rename_i a b
      cases h
      have a' := Nat.eq_of_beq_eq_true a
      have b' := Nat.eq_of_beq_eq_true b
      clear a b
      obtain ⟨f1, f2, f3, f4, f5⟩ := f
      dsimp only at a' b'
      subst a' b'
      exact hF _ List.mem_cons_self
    · exact zf2_ok (fun f hf => hF f (List.mem_cons_of_mem _ hf)) h
/-- the symbol that is 1 at least where this one is not below 0 -/
def zf4 : List zF → Nat → Option (Nat × Nat)
  | [], _ => none
  | f :: t, i => match Nat.beq f.1 4, Nat.beq f.2.2.1 i with
    | true, true => some (f.2.1, f.2.2.2.1)
    | _, _ => zf4 t i
theorem zf4_ok {σ : Nat → Int} : ∀ {F : List zF} {i : Nat} {g : Nat × Nat}, hFs σ F → zf4 F i = some g → σ g.2 ≤ 24 * σ g.1 - 4 * σ i
  | [], i, g, _, h => by cases h
  | f :: t, i, g, hF, h => by
    rw [zf4] at h
    split at h
    · rename_i a b
      cases h
      have a' := Nat.eq_of_beq_eq_true a
      have b' := Nat.eq_of_beq_eq_true b
      clear a b
      obtain ⟨f1, f2, f3, f4, f5⟩ := f
      dsimp only at a' b'
      subst a' b'
      exact hF _ List.mem_cons_self
    · exact zf4_ok (fun f hf => hF f (List.mem_cons_of_mem _ hf)) h
def zr4 (F : List zF) (B : zB) (i : Nat) (k : zB → Bool) : Bool := match zf4 F i with
  | some g => match zr B i, zr B g.1, zr B g.2 with
    | some p, some q, some w => match ile 0 p.1, ile q.1 0, ile 1 w.1 with
      | true, true, true => k ((g.1, 1, q.2) :: B)
      | _, _, _ => k B
    | _, _, _ => k B
  | none => k B
theorem zr4_ok {F : List zF} {B : zB} {i : Nat} {k : zB → Bool} (hk : zr4 F B i k = true) : ∃ B', k B' = true ∧ ∀ τ, mB τ B → hFs τ F → τ 1 = 0 → mB τ B' := by
  unfold zr4 at hk
  split at hk
  · rename_i g hg
    split at hk
    · rename_i p q w hp hq hw
      split at hk
      · rename_i e1 e2 e3
        refine ⟨_, hk, fun τ hB hF h1 b hb => ?_⟩
        rcases List.mem_cons.mp hb with rfl | hb
        · have r1 := zr_ok hB h1 hp
          have r2 := zr_ok hB h1 hq
          have r4 := zr_ok hB h1 hw
          have r3 := zf4_ok hF hg
          have e1 := ile_le e1
          have e3 := ile_le e3
          show 1 ≤ τ g.1 ∧ τ g.1 ≤ q.2
          omega
        · exact hB b hb
      · exact ⟨B, hk, fun τ hB _ _ => hB⟩
    · exact ⟨B, hk, fun τ hB _ _ => hB⟩
  · exact ⟨B, hk, fun τ hB _ _ => hB⟩
/-- a symbol's new bounds, where they are news -/
def zput (B : zB) (i : Nat) (a p1 p2 u1 u2 : Int) (k : zB → Bool) : Bool := match Nat.beq i 1 with
  | true => k B
  | false => match ieq p1 u1, ieq p2 u2 with
    | true, true => k B
    | _, _ => frZ (u1 - a) (fun v1 => frZ (u2 - a) (fun v2 => k ((i, v1, v2) :: B)))
theorem zput_ok {B : zB} {i : Nat} {a p1 p2 u1 u2 : Int} {k : zB → Bool} (hk : zput B i a p1 p2 u1 u2 k = true) : ∃ B', k B' = true ∧ ∀ τ, mB τ B → (u1 ≤ τ i + a ∧ τ i + a ≤ u2) → mB τ B' := by
  unfold zput at hk
  split at hk
  · exact ⟨B, hk, fun τ hB _ => hB⟩
  · split at hk
    · exact ⟨B, hk, fun τ hB _ => hB⟩
    · rw [frZ_eq, frZ_eq] at hk
      refine ⟨_, hk, fun τ hB hu b hb => ?_⟩
      rcases List.mem_cons.mp hb with rfl | hb
      · show u1 - a ≤ τ i ∧ τ i ≤ u2 - a
        omega
      · exact hB b hb
/-- facts of two symbols that stand so: 'i + a R j + b' -/
def zgf (R : Nat) (B : zB) (F : List zF) (i : Nat) (a : Int) (j : Nat) (b : Int) (k : zB → List zF → Bool) : Bool := match Nat.beq i 1, Nat.beq j 1 with
  | false, false => match R with
    | 0 => frZ (a + 1 - b) (fun d => k B ((3, j, i, 0, d) :: F))
    | 1 => frZ (a - b) (fun d => k B ((3, j, i, 0, d) :: F))
    | 2 => k B F
    | 3 => match zf3 F j i with
      | some d => match ieq d (a - b) with
        | true => match zr B i, zr B j with
          | some p, some q => frZ (d + 1) (fun d' => frZ (imin p.2 (q.2 - d')) (fun h => k ((i, p.1, h) :: B) ((3, j, i, 0, d') :: F)))
          | _, _ => k B F
        | false => k B F
      | none => k B F
    | 4 => frZ (b + 1 - a) (fun d => k B ((3, i, j, 0, d) :: F))
    | _ => frZ (b - a) (fun d => k B ((3, i, j, 0, d) :: F))
  | _, _ => k B F
theorem hFs_cons {τ : Nat → Int} {f : zF} {F : List zF} (h1 : hf τ f) (h2 : hFs τ F) : hFs τ (f :: F) := fun g hg => by
  rcases List.mem_cons.mp hg with rfl | hg
  · exact h1
  · exact h2 g hg
theorem zgf_ok {R : Nat} {B : zB} {F : List zF} {i : Nat} {a : Int} {j : Nat} {b : Int} {k : zB → List zF → Bool} (hk : zgf R B F i a j b k = true) : ∃ B' F', k B' F' = true ∧ ∀ τ, mB τ B → hFs τ F → τ 1 = 0 → rel R (τ i + a) (τ j + b) → mB τ B' ∧ hFs τ F' := by
  have no : k B F = true → ∃ B' F', k B' F' = true ∧ ∀ τ, mB τ B → hFs τ F → τ 1 = 0 → rel R (τ i + a) (τ j + b) → mB τ B' ∧ hFs τ F' := fun hk => ⟨B, F, hk, fun τ h1 h2 _ _ => ⟨h1, h2⟩⟩
  unfold zgf at hk
  split at hk
  · match R, hk, no with
    | 0, hk, _ =>
      have hk : frZ (a + 1 - b) (fun d => k B ((3, j, i, 0, d) :: F)) = true := hk
      rw [frZ_eq] at hk
      refine ⟨_, _, hk, fun τ hB hF h1 h => ⟨hB, hFs_cons ?_ hF⟩⟩
      have h : τ i + a < τ j + b := h
      show τ i + (a + 1 - b) ≤ τ j
      omega
    | 1, hk, _ =>
      have hk : frZ (a - b) (fun d => k B ((3, j, i, 0, d) :: F)) = true := hk
      rw [frZ_eq] at hk
      refine ⟨_, _, hk, fun τ hB hF h1 h => ⟨hB, hFs_cons ?_ hF⟩⟩
      have h : τ i + a ≤ τ j + b := h
      show τ i + (a - b) ≤ τ j
      omega
    | 2, hk, no => exact no hk
    | 3, hk, no =>
      have hk : (match zf3 F j i with
        | some d => match ieq d (a - b) with
          | true => match zr B i, zr B j with
            | some p, some q => frZ (d + 1) (fun d' => frZ (imin p.2 (q.2 - d')) (fun h => k ((i, p.1, h) :: B) ((3, j, i, 0, d') :: F)))
            | _, _ => k B F
          | false => k B F
        | none => k B F) = true := hk
      split at hk
      · rename_i d hd
        split at hk
        · rename_i e
          have e := ieq_eq e
          split at hk
          · rename_i p q hp hq
            rw [frZ_eq, frZ_eq] at hk
            refine ⟨_, _, hk, fun τ hB hF h1 h => ?_⟩
            have h : τ i + a ≠ τ j + b := h
            have o := zf3_ok hF hd
            have r1 := zr_ok hB h1 hp
            have r2 := zr_ok hB h1 hq
            refine ⟨fun c hc => ?_, hFs_cons ?_ hF⟩
            · rcases List.mem_cons.mp hc with rfl | hc
              · show p.1 ≤ τ i ∧ τ i ≤ imin p.2 (q.2 - (d + 1))
                exact ⟨r1.1, imin_le r1.2 (by omega)⟩
              · exact hB c hc
            · show τ i + (d + 1) ≤ τ j
              omega
          · exact no hk
        · exact no hk
      · exact no hk
    | 4, hk, _ =>
      have hk : frZ (b + 1 - a) (fun d => k B ((3, i, j, 0, d) :: F)) = true := hk
      rw [frZ_eq] at hk
      refine ⟨_, _, hk, fun τ hB hF h1 h => ⟨hB, hFs_cons ?_ hF⟩⟩
      have h : τ j + b < τ i + a := h
      show τ j + (b + 1 - a) ≤ τ i
      omega
    | R + 5, hk, _ =>
      have hk : frZ (b - a) (fun d => k B ((3, i, j, 0, d) :: F)) = true := hk
      rw [frZ_eq] at hk
      refine ⟨_, _, hk, fun τ hB hF h1 h => ⟨hB, hFs_cons ?_ hF⟩⟩
      have h : τ j + b ≤ τ i + a := h
      show τ j + (b - a) ≤ τ i
      omega
  · exact no hk
/-- where 'i + a R j + b' can be: on with what follows from it -/
def zrf (R : Nat) (B : zB) (F : List zF) (i : Nat) (a : Int) (j : Nat) (b : Int) (k : zB → List zF → Bool) : Bool := match Nat.beq i j with
  | true => match relb R a b with
    | true => k B F
    | false => true
  | false => match zr B i, zr B j with
    | some p, some q => frZ (p.1 + a) (fun p1 => frZ (p.2 + a) (fun p2 => frZ (q.1 + b) (fun q1 => frZ (q.2 + b) (fun q2 => match zrp R p1 p2 q1 q2 with
      | ((u1, u2), v1, v2) => match ile u1 u2, ile v1 v2 with
        | true, true => zput B i a p1 p2 u1 u2 (fun B => zput B j b q1 q2 v1 v2 (fun B => zr4 F B i (fun B => zgf R B F i a j b k)))
        | _, _ => true))))
    | _, _ => false
theorem zrf_ok {R : Nat} {B : zB} {F : List zF} {i : Nat} {a : Int} {j : Nat} {b : Int} {k : zB → List zF → Bool} (hk : zrf R B F i a j b k = true) {P : (Nat → Int) → Prop} (hP : ∀ τ, P τ → mB τ B ∧ hFs τ F ∧ τ 1 = 0 ∧ rel R (τ i + a) (τ j + b)) (τ0 : Nat → Int) (h0 : P τ0) : ∃ B' F', k B' F' = true ∧ ∀ τ, P τ → mB τ B' ∧ hFs τ F' := by
  unfold zrf at hk
  split at hk
  · rename_i e
    have e := Nat.eq_of_beq_eq_true e
    subst e
    split at hk
    · exact ⟨B, F, hk, fun τ h => ⟨(hP τ h).1, (hP τ h).2.1⟩⟩
    · rename_i q
      have := (hP τ0 h0).2.2.2
      refine absurd ?_ (relb_f q)
      match R, this with
      | 0, t => have t : τ0 i + a < τ0 i + b := t; show a < b; omega
      | 1, t => have t : τ0 i + a ≤ τ0 i + b := t; show a ≤ b; omega
      | 2, t => have t : τ0 i + a = τ0 i + b := t; show a = b; omega
      | 3, t => have t : τ0 i + a ≠ τ0 i + b := t; show a ≠ b; omega
      | 4, t => have t : τ0 i + b < τ0 i + a := t; show b < a; omega
      | R + 5, t => have t : τ0 i + b ≤ τ0 i + a := t; show b ≤ a; omega
  · split at hk
    · rename_i p q hp hq
      rw [frZ_eq, frZ_eq, frZ_eq, frZ_eq] at hk
      have key : ∀ τ, P τ → ((zrp R (p.1 + a) (p.2 + a) (q.1 + b) (q.2 + b)).1.1 ≤ τ i + a ∧ τ i + a ≤ (zrp R (p.1 + a) (p.2 + a) (q.1 + b) (q.2 + b)).1.2) ∧ (zrp R (p.1 + a) (p.2 + a) (q.1 + b) (q.2 + b)).2.1 ≤ τ j + b ∧ τ j + b ≤ (zrp R (p.1 + a) (p.2 + a) (q.1 + b) (q.2 + b)).2.2 := fun τ h => by
        obtain ⟨c1, c2, c3, c4⟩ := hP τ h
        have r1 := zr_ok c1 c3 hp
        have r2 := zr_ok c1 c3 hq
        exact zrp_ok ⟨by omega, by omega⟩ ⟨by omega, by omega⟩ c4
      split at hk
      rename_i u1 u2 v1 v2 hz
      rw [hz] at key
      dsimp only at key
      split at hk
      · obtain ⟨B1, hk, m1⟩ := zput_ok hk
        obtain ⟨B2, hk, m2⟩ := zput_ok hk
        obtain ⟨B3, hk, m3⟩ := zr4_ok hk
        obtain ⟨B4, F4, hk, m4⟩ := zgf_ok hk
        refine ⟨B4, F4, hk, fun τ h => ?_⟩
        obtain ⟨c1, c2, c3, c4⟩ := hP τ h
        have kk := key τ h
        exact m4 τ (m3 τ (m2 τ (m1 τ c1 kk.1) kk.2) c2 c3) c2 c3 c4
      · rename_i no
        have kk := key τ0 h0
        exact absurd (le_ile (Int.le_trans kk.2.1 kk.2.2)) (fun z => no (le_ile (Int.le_trans kk.1.1 kk.1.2)) z)
    · cases hk
/-- a branch's state -/
theorem ms_bf {K : zK} {σ : Nat → Int} {l : List (Nat × zV)} {st st' : List zV} {hp : List (Nat × zC)} {B B' : zB} {F F' : List zF} {n : Nat} {lv : aL} {sc sc' : List aV} {h : aH} (H : ms K σ (l, st, hp, B, F, n) lv sc h) (hb : ∀ τ, ag n σ τ → mB τ B' ∧ hFs τ F') (hs : ∀ τ, ag n σ τ → sc' = cs τ st') : ms K σ (l, st', hp, B', F', n) lv sc' h := fun τ hτ => by
  have G := H τ hτ
  exact ⟨⟨G.1.1, hs τ hτ⟩, G.2.1, (hb τ hτ).1, (hb τ hτ).2, G.2.2.2.2⟩
theorem ms.bf {K : zK} {σ : Nat → Int} {l : List (Nat × zV)} {st : List zV} {hp : List (Nat × zC)} {B : zB} {F : List zF} {n : Nat} {lv : aL} {sc : List aV} {h : aH} (H : ms K σ (l, st, hp, B, F, n) lv sc h) : ∀ τ, ag n σ τ → mB τ B ∧ hFs τ F ∧ τ 1 = 0 := fun τ hτ => by
  have G := H τ hτ
  exact ⟨G.2.2.1, G.2.2.2.1, G.2.2.2.2.1.1⟩
def tB2 (R t n : Nat) : zT := fun _ s k => match s with
  | (l, y :: x :: r, hp, B, F, m) => zI B x (fun _ _ => zI B y (fun _ _ => match zrf R B F x.2.1 x.2.2 y.2.1 y.2.2 (fun B F => k (.inl (t, (l, r, hp, B, F, m)))) with
    | true => zrf (ngR R) B F x.2.1 x.2.2 y.2.1 y.2.2 (fun B F => k (.inl (n, (l, r, hp, B, F, m))))
    | false => false))
  | _ => false
theorem d_B2 {f : Int32 → Int32 → Bool} {q : Bool → Bool} {R t n : Nat} (hf : ∀ x y : Int32, (f x y = true → rel R x.toInt y.toInt) ∧ (f x y = false → ¬ rel R x.toInt y.toInt)) : Sd (oB2 f q t n) (tB2 R t n) := by
  intro K σ s lv st h H k hk
  obtain ⟨l, st0, hp, B, F, m⟩ := s
  unfold tB2 at hk
  split at hk
  · rename_i l1 y x r hp1 B1 F1 m1 e
    cases e
    obtain ⟨a, b, hk, xx, ex, -, -, Tx⟩ := zI_st H (cs_hd (cs_tl H.st)) hk
    obtain ⟨c, d, hk, yy, ey, -, -, Ty⟩ := zI_st H (cs_hd H.st) hk
    have e1 := H.st σ ag.rf
    rw [cs_cons, cs_cons, ex, ey] at e1
    split at hk
    · rename_i h1
      cases hc : f xx yy with
      | true =>
        obtain ⟨B', F', hk, hb⟩ := zrf_ok h1 (P := ag m σ) (fun τ hτ => ⟨(H.bf τ hτ).1, (H.bf τ hτ).2.1, (H.bf τ hτ).2.2, by rw [Tx τ hτ, Ty τ hτ]; exact (hf xx yy).1 hc⟩) σ ag.rf
        refine ⟨_, hk, σ, lv, cs σ r, h, ?_, ms_bf H hb (cs_tl (cs_tl H.st)), Nat.le_refl _, ag.rf⟩
        rw [e1]
        show oB2 f q t n lv (.inl (.int yy) :: .inl (.int xx) :: cs σ r) h = _
        unfold oB2
        dsimp only
        rw [hc]
        rfl
      | false =>
        obtain ⟨B', F', hk, hb⟩ := zrf_ok hk (P := ag m σ) (fun τ hτ => ⟨(H.bf τ hτ).1, (H.bf τ hτ).2.1, (H.bf τ hτ).2.2, by rw [Tx τ hτ, Ty τ hτ]; exact rel_ng R _ _ ((hf xx yy).2 hc)⟩) σ ag.rf
        refine ⟨_, hk, σ, lv, cs σ r, h, ?_, ms_bf H hb (cs_tl (cs_tl H.st)), Nat.le_refl _, ag.rf⟩
        rw [e1]
        show oB2 f q t n lv (.inl (.int yy) :: .inl (.int xx) :: cs σ r) h = _
        unfold oB2
        dsimp only
        rw [hc]
        rfl
    · cases hk
  · cases hk
/-- against 0, and what it compares -/
def zrz (R : Nat) (B : zB) (F : List zF) (x : zV) (k : zB → List zF → Bool) : Bool := zrf R B F x.2.1 x.2.2 1 0 (fun B F => match ieq x.2.2 0, zf2 F x.2.1 with
  | true, some q => zrf R B F q.1 0 q.2.1 q.2.2 k
  | _, _ => k B F)
theorem zrz_ok {R : Nat} {B : zB} {F : List zF} {x : zV} {k : zB → List zF → Bool} (hk : zrz R B F x k = true) {P : (Nat → Int) → Prop} (hP : ∀ τ, P τ → mB τ B ∧ hFs τ F ∧ τ 1 = 0 ∧ rel R (τ x.2.1 + x.2.2) 0) (τ0 : Nat → Int) (h0 : P τ0) : ∃ B' F', k B' F' = true ∧ ∀ τ, P τ → mB τ B' ∧ hFs τ F' := by
  unfold zrz at hk
  obtain ⟨B1, F1, hk, h1⟩ := zrf_ok hk (P := P) (fun τ hτ => by
    obtain ⟨a, b, c, d⟩ := hP τ hτ
    refine ⟨a, b, c, ?_⟩
    rw [c]
    exact d) τ0 h0
  split at hk
  · rename_i q e hq
    have e := ieq_eq e
    refine zrf_ok hk (P := P) (fun τ hτ => ?_) τ0 h0
    obtain ⟨a, b, c, d⟩ := hP τ hτ
    obtain ⟨a1, b1⟩ := h1 τ hτ
    refine ⟨a1, b1, c, ?_⟩
    have z := zf2_ok b1 hq
    rw [e, Int.add_zero] at d
    rw [Int.add_zero]
    match R, d with
    | 0, d => have d : τ x.2.1 < 0 := d; show τ q.1 < τ q.2.1 + q.2.2; omega
    | 1, d => have d : τ x.2.1 ≤ 0 := d; show τ q.1 ≤ τ q.2.1 + q.2.2; omega
    | 2, d => have d : τ x.2.1 = 0 := d; show τ q.1 = τ q.2.1 + q.2.2; omega
    | 3, d => have d : τ x.2.1 ≠ 0 := d; show τ q.1 ≠ τ q.2.1 + q.2.2; omega
    | 4, d => have d : 0 < τ x.2.1 := d; show τ q.2.1 + q.2.2 < τ q.1; omega
    | R + 5, d => have d : 0 ≤ τ x.2.1 := d; show τ q.2.1 + q.2.2 ≤ τ q.1; omega
  · exact ⟨B1, F1, hk, h1⟩
def tB1 (R t n : Nat) : zT := fun _ s k => match s with
  | (l, x :: r, hp, B, F, m) => zI B x (fun _ _ => match zrz R B F x (fun B F => k (.inl (t, (l, r, hp, B, F, m)))) with
    | true => zrz (ngR R) B F x (fun B F => k (.inl (n, (l, r, hp, B, F, m))))
    | false => false)
  | _ => false
theorem d_B1 {f : Int32 → Bool} {q : Bool → Bool} {R t n : Nat} (hf : ∀ x : Int32, (f x = true → rel R x.toInt 0) ∧ (f x = false → ¬ rel R x.toInt 0)) : Sd (oB1 f q t n) (tB1 R t n) := by
  intro K σ s lv st h H k hk
  obtain ⟨l, st0, hp, B, F, m⟩ := s
  unfold tB1 at hk
  split at hk
  · rename_i l1 x r hp1 B1 F1 m1 e
    cases e
    obtain ⟨a, b, hk, xx, ex, -, -, Tx⟩ := zI_st H (cs_hd H.st) hk
    have e1 := H.st σ ag.rf
    rw [cs_cons, ex] at e1
    split at hk
    · rename_i h1
      cases hc : f xx with
      | true =>
        obtain ⟨B', F', hk, hb⟩ := zrz_ok h1 (P := ag m σ) (fun τ hτ => ⟨(H.bf τ hτ).1, (H.bf τ hτ).2.1, (H.bf τ hτ).2.2, by rw [Tx τ hτ]; exact (hf xx).1 hc⟩) σ ag.rf
        refine ⟨_, hk, σ, lv, cs σ r, h, ?_, ms_bf H hb (cs_tl H.st), Nat.le_refl _, ag.rf⟩
        rw [e1]
        show oB1 f q t n lv (.inl (.int xx) :: cs σ r) h = _
        unfold oB1
        dsimp only
        rw [hc]
        rfl
      | false =>
        obtain ⟨B', F', hk, hb⟩ := zrz_ok hk (P := ag m σ) (fun τ hτ => ⟨(H.bf τ hτ).1, (H.bf τ hτ).2.1, (H.bf τ hτ).2.2, by rw [Tx τ hτ]; exact rel_ng R _ _ ((hf xx).2 hc)⟩) σ ag.rf
        refine ⟨_, hk, σ, lv, cs σ r, h, ?_, ms_bf H hb (cs_tl H.st), Nat.le_refl _, ag.rf⟩
        rw [e1]
        show oB1 f q t n lv (.inl (.int xx) :: cs σ r) h = _
        unfold oB1
        dsimp only
        rw [hc]
        rfl
    · cases hk
  · cases hk
theorem bf {p : Prop} [Decidable p] {r : Prop} (h : p ↔ r) : (decide p = true → r) ∧ (decide p = false → ¬ r) := ⟨fun q => h.mp (of_decide_eq_true q), fun q z => of_decide_eq_false q (h.mpr z)⟩
theorem e_eq (x y : Int32) : x = y ↔ x.toInt = y.toInt := Int32.toInt_inj.symm
theorem e0 : (0 : Int32).toInt = 0 := rfl
theorem d_ifeq {q : Bool → Bool} {t n : Nat} : Sd (oB1 b_if_eq q t n) (tB1 2 t n) := d_B1 (fun x => bf (e_eq x 0))
theorem d_ifne {q : Bool → Bool} {t n : Nat} : Sd (oB1 b_if_ne q t n) (tB1 3 t n) := d_B1 (fun x => bf (not_congr (e_eq x 0)))
theorem d_iflt {q : Bool → Bool} {t n : Nat} : Sd (oB1 b_if_lt q t n) (tB1 0 t n) := d_B1 (fun x => bf (Int32.lt_iff_toInt_lt (x := x) (y := 0)))
theorem d_ifge {q : Bool → Bool} {t n : Nat} : Sd (oB1 b_if_ge q t n) (tB1 5 t n) := d_B1 (fun x => bf (Int32.le_iff_toInt_le (x := 0) (y := x)))
theorem d_ifgt {q : Bool → Bool} {t n : Nat} : Sd (oB1 b_if_gt q t n) (tB1 4 t n) := d_B1 (fun x => bf (Int32.lt_iff_toInt_lt (x := 0) (y := x)))
theorem d_ifle {q : Bool → Bool} {t n : Nat} : Sd (oB1 b_if_le q t n) (tB1 1 t n) := d_B1 (fun x => bf (Int32.le_iff_toInt_le (x := x) (y := 0)))
theorem d_iceq {q : Bool → Bool} {t n : Nat} : Sd (oB2 b_icmp_eq q t n) (tB2 2 t n) := d_B2 (fun x y => bf (e_eq x y))
theorem d_icne {q : Bool → Bool} {t n : Nat} : Sd (oB2 b_icmp_ne q t n) (tB2 3 t n) := d_B2 (fun x y => bf (not_congr (e_eq x y)))
theorem d_iclt {q : Bool → Bool} {t n : Nat} : Sd (oB2 b_icmp_lt q t n) (tB2 0 t n) := d_B2 (fun x y => bf (Int32.lt_iff_toInt_lt (x := x) (y := y)))
theorem d_icge {q : Bool → Bool} {t n : Nat} : Sd (oB2 b_icmp_ge q t n) (tB2 5 t n) := d_B2 (fun x y => bf (Int32.le_iff_toInt_le (x := y) (y := x)))
theorem d_icgt {q : Bool → Bool} {t n : Nat} : Sd (oB2 b_icmp_gt q t n) (tB2 4 t n) := d_B2 (fun x y => bf (Int32.lt_iff_toInt_lt (x := y) (y := x)))
theorem d_icle {q : Bool → Bool} {t n : Nat} : Sd (oB2 b_icmp_le q t n) (tB2 1 t n) := d_B2 (fun x y => bf (Int32.le_iff_toInt_le (x := x) (y := y)))
