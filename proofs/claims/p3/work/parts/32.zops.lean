/-! THE CHECKER'S STEPS, part one: numbers -/
/-- a value was made: it is V -/
def VP (K : zK) (σ : Nat → Int) (l : List (Nat × zV)) (st : List zV) (hp : List (Nat × zC)) (F : List zF) (n : Nat) (lv : aL) (sc : List aV) (h : aH) (V : Value) (k : zV → zB → Nat → Bool) : Prop :=
  ∃ (b : zV) (B' : zB) (n' : Nat) (σ' : Nat → Int), k b B' n' = true ∧ ms K σ' (l, st, hp, B', F, n') lv sc h ∧ (∀ τ, ag n' σ' τ → cv τ b = V) ∧ n ≤ n' ∧ ag n σ σ'
theorem VP.int {K : zK} {σ : Nat → Int} {l : List (Nat × zV)} {st : List zV} {hp : List (Nat × zC)} {B : zB} {F : List zF} {n : Nat} {lv : aL} {sc : List aV} {h : aH} (H : ms K σ (l, st, hp, B, F, n) lv sc h) {lo hi : Int} {k : zV → zB → Nat → Bool} (hk : zN 0 B n lo hi k = true) (x : Int32) (h1 : lo ≤ x.toInt) (h2 : x.toInt ≤ hi) : VP K σ l st hp F n lv sc h (.int x) k := by
  obtain ⟨b, B', n', σ', a1, a2, a3, a4, a5, a6⟩ := zN_ok H hk x.toInt h1 h2
  exact ⟨b, B', n', σ', a1, a2, fun τ hτ => cv_int a3 (a4 τ hτ), a5, a6⟩
theorem VP.long {K : zK} {σ : Nat → Int} {l : List (Nat × zV)} {st : List zV} {hp : List (Nat × zC)} {B : zB} {F : List zF} {n : Nat} {lv : aL} {sc : List aV} {h : aH} (H : ms K σ (l, st, hp, B, F, n) lv sc h) {lo hi : Int} {k : zV → zB → Nat → Bool} (hk : zN 1 B n lo hi k = true) (x : Int64) (h1 : lo ≤ x.toInt) (h2 : x.toInt ≤ hi) : VP K σ l st hp F n lv sc h (.long x) k := by
  obtain ⟨b, B', n', σ', a1, a2, a3, a4, a5, a6⟩ := zN_ok H hk x.toInt h1 h2
  exact ⟨b, B', n', σ', a1, a2, fun τ hτ => cv_long a3 (a4 τ hτ), a5, a6⟩
theorem VP.same {K : zK} {σ : Nat → Int} {l : List (Nat × zV)} {st : List zV} {hp : List (Nat × zC)} {B : zB} {F : List zF} {n : Nat} {lv : aL} {sc : List aV} {h : aH} (H : ms K σ (l, st, hp, B, F, n) lv sc h) {b : zV} {k : zV → zB → Nat → Bool} (hk : k b B n = true) {V : Value} (hV : ∀ τ, ag n σ τ → cv τ b = V) : VP K σ l st hp F n lv sc h V k := ⟨b, B, n, σ, hk, H, hV, Nat.le_refl _, ag.rf⟩
/-- it goes on the stack -/
theorem So.push {K : zK} {σ : Nat → Int} {l : List (Nat × zV)} {st r : List zV} {hp : List (Nat × zC)} {B : zB} {F : List zF} {n t : Nat} {lv : aL} {sc rc : List aV} {h : aH} {V : Value} {k : zR → Bool} {op : aO} (P : VP K σ l st hp F n lv sc h V (fun b B' n' => k (.inl (t, (l, b :: r, hp, B', F, n'))))) (hr : ∀ τ, ag n σ τ → rc = cs τ r) (ho : op lv sc h = some (.inl (t, lv, .inl V :: rc, h, 0, 0))) : ∃ R, k R = true ∧ So K σ (l, st, hp, B, F, n) op lv sc h R := by
  obtain ⟨b, B', n', σ', a1, a2, a3, a4, a5⟩ := P
  refine ⟨_, a1, σ', lv, _, h, ho, ms_st a2 (fun τ hτ _ _ _ => ?_), a4, a5⟩
  show .inl V :: rc = .inl (cv τ b) :: cs τ r
  rw [a3 τ hτ, hr τ (a5.tr hτ a4)]
/-- the same state but for the stack -/
theorem So.go {K : zK} {σ : Nat → Int} {l l' : List (Nat × zV)} {st st' : List zV} {hp : List (Nat × zC)} {B : zB} {F : List zF} {n t : Nat} {lv lv' : aL} {sc sc' : List aV} {h : aH} {k : zR → Bool} {op : aO} (H : ms K σ (l, st, hp, B, F, n) lv sc h) (hk : k (.inl (t, (l', st', hp, B, F, n))) = true) (ho : op lv sc h = some (.inl (t, lv', sc', h, 0, 0))) (hl : ∀ τ, ag n σ τ → mL τ l lv → sc = cs τ st → mB τ B → τ 1 = 0 → mL τ l' lv' ∧ sc' = cs τ st') : ∃ R, k R = true ∧ So K σ (l, st, hp, B, F, n) op lv sc h R :=
  ⟨_, hk, σ, lv', sc', h, ho, ms_ls H hl, Nat.le_refl _, ag.rf⟩
theorem cs_cons {σ : Nat → Int} {b : zV} {r : List zV} : cs σ (b :: r) = .inl (cv σ b) :: cs σ r := rfl
theorem cs_tl {n : Nat} {σ : Nat → Int} {b : zV} {r : List zV} {sc : List aV} (h : ∀ τ, ag n σ τ → sc = cs τ (b :: r)) : ∀ τ, ag n σ τ → cs σ r = cs τ r := fun τ hτ => by
  have e := (h σ ag.rf).symm.trans (h τ hτ)
  rw [cs_cons, cs_cons] at e
  exact (List.cons.inj e).2
theorem cs_hd {n : Nat} {σ : Nat → Int} {b : zV} {r : List zV} {sc : List aV} (h : ∀ τ, ag n σ τ → sc = cs τ (b :: r)) : ∀ τ, ag n σ τ → cv τ b = cv σ b := fun τ hτ => by
  have e := (h σ ag.rf).symm.trans (h τ hτ)
  rw [cs_cons, cs_cons] at e
  exact (Sum.inl.inj (List.cons.inj e).1).symm
theorem ms.st {K : zK} {σ : Nat → Int} {l : List (Nat × zV)} {st : List zV} {hp : List (Nat × zC)} {B : zB} {F : List zF} {n : Nat} {lv : aL} {sc : List aV} {h : aH} (H : ms K σ (l, st, hp, B, F, n) lv sc h) : ∀ τ, ag n σ τ → sc = cs τ st := fun τ hτ => (H τ hτ).1.2
-- constants
def tK (c : Int) (n : Nat) : zT := fun _ s k => match s with
  | (l, st, hp, B, F, m) => k (.inl (n, (l, (0, 1, c) :: st, hp, B, F, m)))
theorem d_K0 {op : aO} {v : Int32} {c : Int} {n : Nat} (ho : ∀ lv st h, op lv st h = nx n lv (.inl (.int v) :: st) h) (hc : v.toInt = c) : Sd op (tK c n) := by
  intro K σ s lv st h H k hk
  obtain ⟨l, st0, hp, B, F, m⟩ := s
  refine So.go H hk (ho lv st h) (fun τ _ a e _ h1 => ⟨a, ?_⟩)
  rw [e, cs_cons, cv_int (x := v) rfl (by show τ 1 + c = v.toInt; omega)]
theorem d_K {v : Int32} {c : Int} {n : Nat} (hc : v.toInt = c) : Sd (oS (gKo (.int v)) n) (tK c n) := d_K0 (fun _ _ _ => rfl) hc
theorem d_Kc {v : Int32} {c : Int} {n : Nat} (hc : v.toInt = c) : Sd (oK (.int v) n) (tK c n) := d_K0 (fun _ _ _ => rfl) hc
def tKL (c : Int) (n : Nat) : zT := fun _ s k => match s with
  | (l, st, hp, B, F, m) => k (.inl (n, (l, (1, 1, c) :: st, hp, B, F, m)))
theorem d_KL0 {op : aO} {v : Int64} {c : Int} {n : Nat} (ho : ∀ lv st h, op lv st h = nx n lv (.inl (.long v) :: st) h) (hc : v.toInt = c) : Sd op (tKL c n) := by
  intro K σ s lv st h H k hk
  obtain ⟨l, st0, hp, B, F, m⟩ := s
  refine So.go H hk (ho lv st h) (fun τ _ a e _ h1 => ⟨a, ?_⟩)
  rw [e, cs_cons, cv_long (x := v) rfl (by show τ 1 + c = v.toInt; omega)]
theorem d_KL {v : Int64} {c : Int} {n : Nat} (hc : v.toInt = c) : Sd (oS (gKo (.long v)) n) (tKL c n) := d_KL0 (fun _ _ _ => rfl) hc
theorem d_KLc {v : Int64} {c : Int} {n : Nat} (hc : v.toInt = c) : Sd (oK (.long v) n) (tKL c n) := d_KL0 (fun _ _ _ => rfl) hc
/-- two ints, a new one -/
def tI2 (g : Int → Int → Int → Int → Int × Int) (n : Nat) : zT := fun _ s k => match s with
  | (l, y :: x :: r, hp, B, F, m) => zI B x (fun a b => zI B y (fun c d => match g a b c d with
    | (lo, hi) => zN 0 B m lo hi (fun v B m => k (.inl (n, (l, v :: r, hp, B, F, m))))))
  | _ => false
def gOk (f : Int32 → Int32 → Int32) (g : Int → Int → Int → Int → Int × Int) : Prop := ∀ (a b c d : Int) (x y : Int32), a ≤ x.toInt → x.toInt ≤ b → c ≤ y.toInt → y.toInt ≤ d → (g a b c d).1 ≤ (f x y).toInt ∧ (f x y).toInt ≤ (g a b c d).2
theorem d_I2 {f : Int32 → Int32 → Int32} {g : Int → Int → Int → Int → Int × Int} {n : Nat} (hg : gOk f g) : Sd (oS (gI2 f) n) (tI2 g n) := by
  intro K σ s lv st h H k hk
  obtain ⟨l, st0, hp, B, F, m⟩ := s
  unfold tI2 at hk
  dsimp only at hk
  split at hk
  · rename_i l1 y x r hp1 B1 F1 m1 e
    cases e
    obtain ⟨a, b, hk, -, -, hx⟩ := zI_ok hk
    obtain ⟨c, d, hk, -, -, hy⟩ := zI_ok hk
    have G := H σ ag.rf
    obtain ⟨xx, ex, -, x1, x2⟩ := hx σ G.2.2.1 G.2.2.2.2.1.1
    obtain ⟨yy, ey, -, y1, y2⟩ := hy σ G.2.2.1 G.2.2.2.2.1.1
    have K1 := hg a b c d xx yy x1 x2 y1 y2
    refine So.push (rc := cs σ r) (V := .int (f xx yy)) (VP.int H hk _ K1.1 K1.2) (cs_tl (cs_tl H.st)) ?_
    rw [G.1.2, cs_cons, cs_cons, ex, ey]
    show oS (gI2 f) n lv (.inl (.int yy) :: .inl (.int xx) :: cs σ r) h = _
    unfold oS gI2
    dsimp only
    rw [frI_eq]
    rfl
  · cases hk
/-- exact where both are numbers -/
def gx (f : Int32 → Int32 → Int32) (g : Int → Int → Int → Int → Int × Int) (a b c d : Int) : Int × Int := match ieq a b, ieq c d with
  | true, true => ((f (Int32.ofInt a) (Int32.ofInt c)).toInt, (f (Int32.ofInt a) (Int32.ofInt c)).toInt)
  | _, _ => g a b c d
theorem gx_ok {f : Int32 → Int32 → Int32} {g : Int → Int → Int → Int → Int × Int} (hg : gOk f g) : gOk f (gx f g) := by
  intro a b c d x y h1 h2 h3 h4
  unfold gx
  split
  · rename_i e1 e2
    have e1 := ieq_eq e1
    have e2 := ieq_eq e2
    have ex : Int32.ofInt a = x := by rw [show a = x.toInt by omega, Int32.ofInt_toInt]
    have ey : Int32.ofInt c = y := by rw [show c = y.toInt by omega, Int32.ofInt_toInt]
    rw [ex, ey]
    exact ⟨Int.le_refl _, Int.le_refl _⟩
  · exact hg a b c d x y h1 h2 h3 h4
def gA (_ _ _ _ : Int) : Int × Int := (-2147483648, 2147483647)
theorem i32_lo (x : Int32) : -2147483648 ≤ x.toInt := Int32.le_toInt x
theorem i32_hi (x : Int32) : x.toInt ≤ 2147483647 := by have := Int32.toInt_lt x; omega
theorem gA_ok (f : Int32 → Int32 → Int32) : gOk f gA := fun _ _ _ _ x y _ _ _ _ => ⟨i32_lo _, i32_hi _⟩
/-- bounds as they are once they are turned into ints; else all ints -/
def zfit (lo hi : Int) : Int × Int := match ile (lo.bmod 4294967296 + (hi - lo)) 2147483647 with
  | true => (lo.bmod 4294967296, lo.bmod 4294967296 + (hi - lo))
  | false => (-2147483648, 2147483647)
theorem zfit_ok {lo hi z : Int} (h1 : lo ≤ z) (h2 : z ≤ hi) (x : Int32) (hx : x.toInt = z.bmod 4294967296) : (zfit lo hi).1 ≤ x.toInt ∧ x.toInt ≤ (zfit lo hi).2 := by
  unfold zfit
  split
  · rename_i e
    have e := ile_le e
    have q := Int.bmod_add_bdiv lo 4294967296
    have m1 : -(4294967296 / 2) ≤ lo.bmod 4294967296 := Int.le_bmod (by decide)
    have e2 : z.bmod 4294967296 = z - lo + lo.bmod 4294967296 := by
      have : z = (z - lo + lo.bmod 4294967296) + (4294967296 : Nat) * lo.bdiv 4294967296 := by omega
      rw [this, Int.add_mul_bmod_self_left]
      rw [show (z - lo + lo.bmod 4294967296) + (4294967296 : Nat) * lo.bdiv 4294967296 - lo + lo.bmod 4294967296 = z - lo + lo.bmod 4294967296 by omega]
      exact Int.bmod_eq_of_le (by omega) (by omega)
    dsimp only
    rw [hx, e2]
    omega
  · exact ⟨i32_lo _, i32_hi _⟩
def g_add (a b c d : Int) : Int × Int := zfit (a + c) (b + d)
theorem g_add_ok : gOk f_iadd g_add := fun a b c d x y h1 h2 h3 h4 => zfit_ok (z := x.toInt + y.toInt) (by omega) (by omega) _ (Int32.toInt_add x y)
def g_sub (a b c d : Int) : Int × Int := zfit (a - d) (b - c)
theorem g_sub_ok : gOk f_isub g_sub := fun a b c d x y h1 h2 h3 h4 => zfit_ok (z := x.toInt - y.toInt) (by omega) (by omega) _ (Int32.toInt_sub x y)
def g_mul (a b c d : Int) : Int × Int := match ieq a b, ile 0 a with
  | true, true => zfit (a * c) (a * d)
  | _, _ => (-2147483648, 2147483647)
theorem g_mul_ok : gOk f_imul g_mul := by
  intro a b c d x y h1 h2 h3 h4
  unfold g_mul
  split
  · rename_i e1 e2
    have e1 := ieq_eq e1
    have e2 := ile_le e2
    have ex : x.toInt = a := by omega
    refine zfit_ok (z := a * y.toInt) (Int.mul_le_mul_of_nonneg_left h3 e2) (Int.mul_le_mul_of_nonneg_left h4 e2) _ ?_
    rw [← ex]
    exact Int32.toInt_mul x y
  · exact ⟨i32_lo _, i32_hi _⟩
theorem i32_cond (x : Int32) : x.toInt = if 2 * x.toBitVec.toNat < 4294967296 then (x.toBitVec.toNat : Int) else (x.toBitVec.toNat : Int) - 4294967296 := BitVec.toInt_eq_toNat_cond x.toBitVec
theorem i32_lt (x : Int32) : x.toBitVec.toNat < 4294967296 := x.toBitVec.isLt
def g_and (a b c d : Int) : Int × Int := match ile 0 a, ile 0 c with
  | true, true => (0, match ile b d with
    | true => b
    | false => d)
  | true, false => (0, b)
  | false, true => (0, d)
  | false, false => (-2147483648, 2147483647)
theorem and_le1 (x y : Int32) (h : 0 ≤ x.toInt) : 0 ≤ (f_iand x y).toInt ∧ (f_iand x y).toInt ≤ x.toInt := by
  have e : (f_iand x y).toBitVec.toNat = x.toBitVec.toNat &&& y.toBitVec.toNat := by
    show (x &&& y).toBitVec.toNat = _
    rw [Int32.toBitVec_and, BitVec.toNat_and]
  have l : x.toBitVec.toNat &&& y.toBitVec.toNat ≤ x.toBitVec.toNat := Nat.and_le_left
  have c1 := i32_cond x
  have c2 := i32_cond (f_iand x y)
  have := i32_lt x
  rw [e] at c2
  split at c1
  · split at c2 <;> omega
  · omega
theorem and_comm32 (x y : Int32) : f_iand x y = f_iand y x := by
  show x &&& y = y &&& x
  rw [← Int32.toBitVec_inj, Int32.toBitVec_and, Int32.toBitVec_and, BitVec.and_comm]
theorem g_and_ok : gOk f_iand g_and := by
  intro a b c d x y h1 h2 h3 h4
  unfold g_and
  split
  · rename_i e1 e2
    have p := and_le1 x y (by have := ile_le e1; omega)
    have q := and_le1 y x (by have := ile_le e2; omega)
    rw [and_comm32 y x] at q
    dsimp only
    split <;> omega
  · rename_i e1 e2
    have p := and_le1 x y (by have := ile_le e1; omega)
    dsimp only
    omega
  · rename_i e1 e2
    have q := and_le1 y x (by have := ile_le e2; omega)
    rw [and_comm32 y x] at q
    dsimp only
    omega
  · exact ⟨i32_lo _, i32_hi _⟩
/-- the greatest number of as many bits -/
def zpw : Int → Int
  | .ofNat 0 => 0
  | .ofNat (n + 1) => .ofNat (2 ^ (Nat.log2 (n + 1) + 1) - 1)
  | .negSucc _ => 0
def zlw (a b : Int) : Option Int := match ile 0 a with
  | true => some b
  | false => match ile b (-1) with
    | true => some (b + 2147483648)
    | false => none
def g_or (a b c d : Int) : Int × Int := match zlw a b, zlw c d with
  | some p, some q => match zpw (match ile p q with
      | true => q
      | false => p) with
    | h => match ile 0 a, ile 0 c with
      | true, true => (0, h)
      | _, _ => (-2147483648, h - 2147483648)
  | _, _ => (-2147483648, 2147483647)
theorem zpw_ok {h : Int} (h0 : 0 ≤ h) : ∃ k : Nat, zpw h = 2 ^ k - 1 ∧ h < 2 ^ k ∧ (h < 2147483648 → k ≤ 31) := by
  match h, h0 with
  | .ofNat 0, _ => exact ⟨0, rfl, by decide, fun _ => by decide⟩
  | .ofNat (n + 1), _ =>
    have l := Nat.lt_log2_self (n := n + 1)
    refine ⟨Nat.log2 (n + 1) + 1, ?_, ?_, fun hh => ?_⟩
    · show ((2 ^ (Nat.log2 (n + 1) + 1) - 1 : Nat) : Int) = _
      rw [Int.ofNat_sub (Nat.two_pow_pos _)]
      simp
    · show ((n + 1 : Nat) : Int) < _
      have e : ((2 ^ (Nat.log2 (n + 1) + 1) : Nat) : Int) = 2 ^ (Nat.log2 (n + 1) + 1) := by simp
      omega
    · have hh : ((n + 1 : Nat) : Int) < 2147483648 := hh
      have : Nat.log2 (n + 1) < 31 := (Nat.log2_lt (by omega)).mpr (by omega)
      omega
theorem or_low1 {u v : Nat} (hu : u < 2147483648) (hv : v < 2147483648) : (2147483648 + u) ||| v = 2147483648 + (u ||| v) := by
  have a := Nat.two_pow_add_eq_or_of_lt (i := 31) (b := u) (by omega) 1
  have b := Nat.two_pow_add_eq_or_of_lt (i := 31) (b := u ||| v) (Nat.or_lt_two_pow (by omega) (by omega)) 1
  have a : 2147483648 + u = 2147483648 ||| u := a
  have b : 2147483648 + (u ||| v) = 2147483648 ||| (u ||| v) := b
  rw [a, b, Nat.or_assoc]
theorem or_low2 {u v : Nat} (hu : u < 2147483648) (hv : v < 2147483648) : (2147483648 + u) ||| (2147483648 + v) = 2147483648 + (u ||| v) := by
  have a := Nat.two_pow_add_eq_or_of_lt (i := 31) (b := u) (by omega) 1
  have b := Nat.two_pow_add_eq_or_of_lt (i := 31) (b := v) (by omega) 1
  have c := Nat.two_pow_add_eq_or_of_lt (i := 31) (b := u ||| v) (Nat.or_lt_two_pow (by omega) (by omega)) 1
  have a : 2147483648 + u = 2147483648 ||| u := a
  have b : 2147483648 + v = 2147483648 ||| v := b
  have c : 2147483648 + (u ||| v) = 2147483648 ||| (u ||| v) := c
  rw [a, b, c, Nat.or_assoc, ← Nat.or_assoc u, Nat.or_comm u 2147483648, Nat.or_assoc 2147483648 u v, ← Nat.or_assoc, Nat.or_self]
theorem zlw_ok {a b p : Int} {x : Int32} (h1 : a ≤ x.toInt) (h2 : x.toInt ≤ b) (h : zlw a b = some p) : ∃ u : Nat, (u : Int) ≤ p ∧ u < 2147483648 ∧ ((ile 0 a = true ∧ x.toBitVec.toNat = u) ∨ (ile 0 a = false ∧ x.toBitVec.toNat = 2147483648 + u)) := by
  unfold zlw at h
  have c := i32_cond x
  have l := i32_lt x
  split at h
  · rename_i e
    cases h
    have e' := ile_le e
    refine ⟨x.toBitVec.toNat, ?_, ?_, .inl ⟨e, rfl⟩⟩ <;> (split at c <;> omega)
  · rename_i e
    split at h
    · rename_i e2
      cases h
      have e2 := ile_le e2
      refine ⟨x.toBitVec.toNat - 2147483648, ?_, ?_, .inr ⟨e, ?_⟩⟩ <;> (split at c <;> omega)
    · cases h
theorem g_or_ok : gOk f_ior g_or := by
  intro a b c d x y h1 h2 h3 h4
  unfold g_or
  have eo : (f_ior x y).toBitVec.toNat = x.toBitVec.toNat ||| y.toBitVec.toNat := by
    show (x ||| y).toBitVec.toNat = _
    rw [Int32.toBitVec_or, BitVec.toNat_or]
  have co := i32_cond (f_ior x y)
  split
  · rename_i p q hp hq
    obtain ⟨u, u1, u2, hu⟩ := zlw_ok h1 h2 hp
    obtain ⟨v, v1, v2, hv⟩ := zlw_ok h3 h4 hq
    have hm : ∃ M : Int, (match ile p q with
      | true => q
      | false => p) = M ∧ (u : Int) ≤ M ∧ (v : Int) ≤ M := by
      cases hc : ile p q with
      | true => have := ile_le hc; exact ⟨q, rfl, by omega, by omega⟩
      | false => have := ile_f hc; exact ⟨p, rfl, by omega, by omega⟩
    obtain ⟨M, hM, m1, m2⟩ := hm
    rw [hM]
    obtain ⟨k, k1, k2, -⟩ := zpw_ok (h := M) (by omega)
    have e2 : ((2 ^ k : Nat) : Int) = 2 ^ k := by simp
    have ub : u ||| v < 2 ^ k := Nat.or_lt_two_pow (by omega) (by omega)
    have u31 : u ||| v < 2147483648 := Nat.or_lt_two_pow (n := 31) (by omega) (by omega)
    have kk : ((u ||| v : Nat) : Int) ≤ zpw M := by rw [k1]; omega
    dsimp only
    rcases hu with ⟨su, hu⟩ | ⟨su, hu⟩ <;> rcases hv with ⟨sv, hv⟩ | ⟨sv, hv⟩ <;> rw [su, sv] <;> rw [hu, hv] at eo
    · rw [eo] at co
      dsimp only
      split at co <;> omega
    · rw [Nat.or_comm, or_low1 v2 u2, Nat.or_comm] at eo
      rw [eo] at co
      dsimp only
      split at co <;> omega
    · rw [or_low1 u2 v2] at eo
      rw [eo] at co
      dsimp only
      split at co <;> omega
    · rw [or_low2 u2 v2] at eo
      rw [eo] at co
      dsimp only
      split at co <;> omega
  · exact ⟨i32_lo _, i32_hi _⟩
