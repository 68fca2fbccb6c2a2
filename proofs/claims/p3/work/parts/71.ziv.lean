/-! BETWEEN CALLS: what holds of both objects; z is the text's length -/
def zWc : zC := zWr (.inr (0, 26, .ofNat 0))
def TIB : zB := (26, .ofNat 0, .ofNat 6) :: zWB
def TI : zS := ([], [], [(90, zWc)], TIB, zWF, 27)
def Iv (z : Int) (h : aH) : Prop := ∃ σ, ms (z, h, []) σ TI [] [] h
-- a call's arguments: an object and up to three ints
def vq (q : Nat) : Nat → List zV
  | 0 => [(2, q, 0)]
  | 1 => [(2, q, 0), (0, 27, 0)]
  | 2 => [(2, q, 0), (0, 27, 0), (0, 28, 0)]
  | _ => [(2, q, 0), (0, 27, 0), (0, 28, 0), (0, 29, 0)]
def lq (q : Nat) : Nat → List (Nat × zV)
  | 0 => [(0, (2, q, 0))]
  | 1 => [(0, (2, q, 0)), (1, (0, 27, 0))]
  | 2 => [(0, (2, q, 0)), (1, (0, 27, 0)), (2, (0, 28, 0))]
  | _ => [(0, (2, q, 0)), (1, (0, 27, 0)), (2, (0, 28, 0)), (3, (0, 29, 0))]
def aq (q : Nat) (a b c : Int32) : Nat → List aV
  | 0 => [.inl (.ref q)]
  | 1 => [.inl (.ref q), .inl (.int a)]
  | 2 => [.inl (.ref q), .inl (.int a), .inl (.int b)]
  | _ => [.inl (.ref q), .inl (.int a), .inl (.int b), .inl (.int c)]
def Bq (x1 x2 z1 z2 : Int) : zB := (0, z1, z2) :: (27, x1, x2) :: (28, .negSucc 2147483647, .ofNat 2147483647) :: (29, .negSucc 2147483647, .ofNat 2147483647) :: TIB
theorem aq_cat (q : Nat) (a b c : Int32) : ∀ k, k < 4 → catS (aq q a b c k) = k + 1
  | 0, _ => rfl
  | 1, _ => rfl
  | 2, _ => rfl
  | 3, _ => rfl
  | k + 4, h => absurd h (by omega)
theorem lq_ok (q : Nat) (k : Nat) (σ : Nat → Int) : mL σ (lq q k) (lvx 0 (cs σ (vq q k))) := by
  obtain ⟨l, e, H⟩ := zlvx_ok (vq q k) 0 (fun l => l)
  have : l = lq q k := by
    rw [← e]
    match k with
    | 0 => rfl
    | 1 => rfl
    | 2 => rfl
    | k + 3 => rfl
  rw [← this]
  exact H σ
theorem vq_ok (q : Nat) (k : Nat) (σ : Nat → Int) (a b c : Int32) (h0 : σ 27 = a.toInt) (h1 : σ 28 = b.toInt) (h2 : σ 29 = c.toInt) : cs σ (vq q k) = aq q a b c k := by
  have e : ∀ (i : Nat) (x : Int32), σ i = x.toInt → cv σ (0, i, 0) = .int x := fun i x h => cv_int rfl (by show σ i + 0 = _; omega)
  match k with
  | 0 => rfl
  | 1 => show [(Sum.inl (.ref q) : aV), .inl (cv σ (0, 27, 0))] = _; rw [e _ _ h0]; rfl
  | 2 => show [(Sum.inl (.ref q) : aV), .inl (cv σ (0, 27, 0)), .inl (cv σ (0, 28, 0))] = _; rw [e _ _ h0, e _ _ h1]; rfl
  | k + 3 => show [(Sum.inl (.ref q) : aV), .inl (cv σ (0, 27, 0)), .inl (cv σ (0, 28, 0)), .inl (cv σ (0, 29, 0))] = _; rw [e _ _ h0, e _ _ h1, e _ _ h2]; rfl
def sgA (σ : Nat → Int) (a b c : Int) (i : Nat) : Int := if i = 27 then a else if i = 28 then b else if i = 29 then c else σ i
theorem sgA_ag (σ : Nat → Int) (a b c : Int) : ag 27 σ (sgA σ a b c) := fun i hi => by
  unfold sgA
  rw [if_neg (by omega), if_neg (by omega), if_neg (by omega)]
/-- a state with arguments, of one without -/
theorem ms_args {z : Int} {h : aH} {md : List Nat} {σ : Nat → Int} {hp : List (Nat × zC)} (H : ms (z, h, md) σ ([], [], hp, TIB, zWF, 27) [] [] h) (q k : Nat) (a b c : Int32) {x1 x2 z1 z2 : Int} (hx1 : x1 ≤ a.toInt) (hx2 : a.toInt ≤ x2) (hz1 : z1 ≤ z) (hz2 : z ≤ z2) : ms (z, h, md) (sgA σ a.toInt b.toInt c.toInt) (lq q k, [], hp, Bq x1 x2 z1 z2, zWF, 30) (lvx 0 (aq q a b c k)) [] h := by
  intro τ hτ
  have hτ : ag 30 (sgA σ a.toInt b.toInt c.toInt) τ := hτ
  have G := H τ ((sgA_ag σ a.toInt b.toInt c.toInt).tr hτ (by decide))
  have e0 : τ 27 = a.toInt := hτ 27 (by decide)
  have e1 : τ 28 = b.toInt := hτ 28 (by decide)
  have e2 : τ 29 = c.toInt := hτ 29 (by decide)
  refine ⟨⟨?_, rfl⟩, G.2.1, ?_, G.2.2.2.1, ⟨G.2.2.2.2.1.1, G.2.2.2.2.1.2.1, by show 2 ≤ 30; decide⟩, G.2.2.2.2.2⟩
  · rw [← vq_ok q k τ a b c e0 e1 e2]
    exact lq_ok q k τ
  · have hz : τ 0 = z := G.2.2.2.2.1.2.1
    have r : ∀ x : Int32, -2147483648 ≤ x.toInt ∧ x.toInt ≤ 2147483647 := fun x => ⟨Int32.le_toInt x, Int32.toInt_le x⟩
    have rb := r b
    have rc := r c
    intro y hy
    rcases List.mem_cons.mp hy with rfl | hy
    · show z1 ≤ τ 0 ∧ τ 0 ≤ z2
      omega
    · rcases List.mem_cons.mp hy with rfl | hy
      · show x1 ≤ τ 27 ∧ τ 27 ≤ x2
        omega
      · rcases List.mem_cons.mp hy with rfl | hy
        · show -2147483648 ≤ τ 28 ∧ τ 28 ≤ 2147483647
          omega
        · rcases List.mem_cons.mp hy with rfl | hy
          · show -2147483648 ≤ τ 29 ∧ τ 29 ≤ 2147483647
            omega
          · exact G.2.2.1 y hy
theorem Iv.md {z : Int} {h : aH} (H : Iv z h) (md : List Nat) : ∃ σ, ms (z, h, md) σ TI [] [] h := by
  obtain ⟨σ, H⟩ := H
  exact ⟨σ, fun τ hτ => by
    have G := H τ hτ
    exact ⟨G.1, G.2.1, G.2.2.1, G.2.2.2.1, G.2.2.2.2.1, fun p _ => rfl⟩⟩
theorem Iv.z {z : Int} {h : aH} (H : Iv z h) : 0 ≤ z ∧ z ≤ 160 := by
  obtain ⟨σ, H⟩ := H
  have G := H σ ag.rf
  have : σ 0 = z := G.2.2.2.2.1.2.1
  have b := G.2.2.1 (0, .ofNat 0, .ofNat 160) (by show _ ∈ TIB; decide)
  rw [← this]
  exact b
/-- what is held against the stack is gone -/
theorem ms_drop {K : zK} {σ : Nat → Int} {l : List (Nat × zV)} {st : List zV} {hp : List (Nat × zC)} {B : zB} {F : List zF} {n : Nat} {lv : aL} {sc : List aV} {h : aH} (H : ms K σ (l, st, hp, B, F, n) lv sc h) : ms K σ ([], [], hp, B, F, n) [] [] h := fun τ hτ => ⟨⟨fun i v hv => (by cases hv), rfl⟩, (H τ hτ).2⟩
theorem ms_nst {K : zK} {σ : Nat → Int} {l : List (Nat × zV)} {st : List zV} {hp : List (Nat × zC)} {B : zB} {F : List zF} {n : Nat} {lv : aL} {sc : List aV} {h : aH} (H : ms K σ (l, st, hp, B, F, n) lv sc h) : ms K σ (l, [], hp, B, F, n) lv [] h := fun τ hτ => ⟨⟨(H τ hτ).1.1, rfl⟩, (H τ hτ).2⟩
/-- a method can be called: its pattern holds, its frames are few -/
def ckE (S : zSm) (q k : Nat) (x1 x2 z1 z2 : Int) : Bool := match zin S.2.2.1 [] (lq q k) [] [(90, zWc)] (Bq x1 x2 z1 z2) zWF [] (fun _ => true), zmd LL S.1 (k + 1), Nat.ble S.2.1 40, Nat.blt k 4 with
  | true, true, true, true => true
  | _, _, _, _ => false
theorem callE {S : zSm} (hS : SmOk LL S) {q k : Nat} {x1 x2 z1 z2 : Int} (hk : ckE S q k x1 x2 z1 z2 = true) {z : Int} {h : aH} (H : Iv z h) (a b c : Int32) (hx1 : x1 ≤ a.toInt) (hx2 : a.toInt ≤ x2) (hz1 : z1 ≤ z) (hz2 : z ≤ z2) : ∃ (r : Option Value) (h' : aH), Rl LL 40 S.1 (aq q a b c k) h r h' ∧ ∃ σX, ms (z, h, S.2.2.2.2) σX S.2.2.2.1 [] (rl r) h' := by
  unfold ckE at hk
  split at hk
  · rename_i k1 k2 k3 k4
    obtain ⟨σ, H0⟩ := H.md S.2.2.2.2
    have HA := ms_args H0 q k a b c hx1 hx2 hz1 hz2
    obtain ⟨th, σT, -, -, HT, -⟩ := zin_ok (K' := (z, h, S.2.2.2.2)) (fs := []) (cf := []) HA True.intro k1 rfl (fun p _ => rfl)
    obtain ⟨r, h', R, hX⟩ := hS z h (aq q a b c k) σT HT (by rw [aq_cat q a b c k (Nat.le_of_ble_eq_true k4)]; exact k2)
    exact ⟨r, h', Rl_le (Nat.le_of_ble_eq_true k3) R, hX⟩
  · cases hk
/-- and all is behind it as between calls -/
def ckX (S : zSm) : Bool := match zsubs S.2.2.2.2 S.2.2.2.2 with
  | true => zaf S.2.2.2.1 S.2.2.2.2 TI (fun s => zin TI [] [] [] s.2.2.1 s.2.2.2.1 s.2.2.2.2.1 [] (fun _ => true))
  | false => false
theorem callX {S : zSm} (hk : ckX S = true) {z : Int} {h h' : aH} (H : Iv z h) {r : Option Value} {σX : Nat → Int} (HX : ms (z, h, S.2.2.2.2) σX S.2.2.2.1 [] (rl r) h') : Iv z h' := by
  unfold ckX at hk
  split at hk
  · rename_i k1
    obtain ⟨σ, H0⟩ := H.md S.2.2.2.2
    obtain ⟨s', σ', k2, H2, -, -⟩ := zaf_ok (K := (z, h, S.2.2.2.2)) H0 HX k1 hk
    obtain ⟨l, st, hp, B, F, n⟩ := s'
    obtain ⟨th, σT, -, -, HT, -⟩ := zin_ok (K' := (z, h', [])) (fs := []) (cf := []) (ms_drop H2) True.intro k2 rfl (fun p _ => rfl)
    exact ⟨σT, HT⟩
  · cases hk
theorem rl_some {r : Option Value} {v : Value} (h : rl r = [.inl v]) : r = some v := by
  cases r with
  | none => cases h
  | some w =>
    have : (Sum.inl w : aV) = .inl v := (List.cons.inj h).1
    cases this
    rfl
-- the text's length changes
def gE (g : zV → Bool) : zE → Bool
  | .inl _ => true
  | .inr v => g v
def gC (g : zV → Bool) : zC → Bool
  | .inl L => L.all (gE g)
  | .inr (.inr (.inr (.inr (_, L)))) => L.all (gE g)
  | _ => true
theorem gE_ok {g : zV → Bool} {σ τ : Nat → Int} (hg : ∀ v, g v = true → cv τ v = cv σ v) {e : zE} (h : gE g e = true) {y : Value} (hy : me σ e y) : me τ e y := by
  rcases e with q | v
  · exact hy
  · exact (show y = cv σ v from hy).trans (hg v h).symm
theorem gC_ok {g : zV → Bool} {σ τ : Nat → Int} (hg : ∀ v, g v = true → cv τ v = cv σ v) {c : zC} (h : gC g c = true) {x : aE} (hx : mc σ c x) : mc τ c x := by
  rcases c with L | q | q | q | ⟨ci, L⟩
  · obtain ⟨l, rfl, ll, H⟩ := mc_ints hx
    exact ⟨ll, fun i e y he hy => gE_ok hg (List.all_eq_true.mp h e (List.mem_of_getElem? he)) (H i e y he hy)⟩
  · rcases x with l | x <;> exact hx
  · rcases x with l | l | x <;> exact hx
  · rcases x with l | l | l | x <;> exact hx
  · obtain ⟨fs, rfl, ll, H⟩ := mc_obj hx
    exact ⟨rfl, ll, fun i e y he hy => gE_ok hg (List.all_eq_true.mp h e (List.mem_of_getElem? he)) (H i e y he hy)⟩
def shE (i : Nat) (d : Int) : zE → zE
  | .inr (0, 0, a) => .inr (0, i, a + d)
  | e => e
theorem shE_ok {e : zE} (h : okE e = true) {σ τ : Nat → Int} {i : Nat} {d : Int} (h0 : τ 0 = σ i + d) {y : Value} (hy : me σ (shE i d e) y) : me τ e y := by
  rcases e with q | ⟨t, j, a⟩
  · exact hy
  · match t, j, h, hy with
    | 0, 0, _, hy =>
      have hy : y = Value.int (Int32.ofInt (σ i + (a + d))) := hy
      show y = Value.int (Int32.ofInt (τ 0 + a))
      rw [hy, h0, show σ i + (a + d) = σ i + d + a by omega]
    | 2, j, _, hy => exact hy
theorem shC_ok {ci : Nat} {L : List zE} (h : okEs L = true) {σ τ : Nat → Int} {i : Nat} {d : Int} (h0 : τ 0 = σ i + d) {x : aE} (hx : mc σ (.inr (.inr (.inr (.inr (ci, L.map (shE i d)))))) x) : mc τ (.inr (.inr (.inr (.inr (ci, L))))) x := by
  obtain ⟨fs, rfl, ll, H⟩ := mc_obj hx
  exact ⟨rfl, by rw [List.length_map] at ll; exact ll, fun j e y he hy => shE_ok (okEs_ok h j e he) h0 (H j _ y (by rw [List.getElem?_map, he]; rfl) hy)⟩
def g2 (v : zV) : Bool := Nat.beq v.1 2
def g1 (v : zV) : Bool := match v.1 with
  | 0 => Nat.blt 0 v.2.1 && Nat.blt v.2.1 27
  | 2 => true
  | _ => false
theorem g2_ok (σ τ : Nat → Int) (v : zV) (h : g2 v = true) : cv τ v = cv σ v := by
  obtain ⟨t, i, a⟩ := v
  have h : t = 2 := Nat.eq_of_beq_eq_true h
  subst h
  rfl
theorem g1_ok {σ τ : Nat → Int} (hs : ∀ i, 0 < i → i < 27 → τ i = σ i) (v : zV) (h : g1 v = true) : cv τ v = cv σ v := by
  obtain ⟨t, i, a⟩ := v
  unfold g1 at h
  dsimp only at h
  split at h
  · have h := Bool.and_eq_true_iff.mp h
    show Value.int (Int32.ofInt (τ i + a)) = Value.int (Int32.ofInt (σ i + a))
    rw [hs i (Nat.le_of_ble_eq_true h.1) (Nat.le_of_ble_eq_true h.2)]
  · rfl
  · cases h
def zF1 : List zE := [zp 2, .inr (0, 0, 0), zp 3, zi, zi, zi, zi]
def zF89 : List zE := [zp 90, .inl (0, 6), zp 91, zp 92, .inr (0, 0, 0), zp 93, .inl (0, 160), zi, zi, zi, zi, zi, zp 94, zp 95, zp 96, zp 97, zp 98, .inl (0, 4), zp 99, .inl (-1, 3)]
theorem zD_1 : zD 1 = some (.inr (.inr (.inr (.inr (3, zF1))))) := rfl
theorem zD_89 : zD 89 = some (.inr (.inr (.inr (.inr (5, zF89))))) := rfl
theorem zD_90 : zD 90 = none := rfl
def zck0 (p : Nat) : Bool := match Nat.beq p 1, Nat.beq p 89, zD p with
  | true, _, _ => true
  | _, true, _ => true
  | _, _, some c => gC g2 c
  | _, _, none => true
theorem zck0_all : (List.range 100).all zck0 = true := by decide +kernel
theorem zD_lt {p : Nat} {c : zC} (h : zD p = some c) : p < 100 := by
  unfold zD at h
  split at h
  · rename_i c' hc
    have := (List.getElem?_eq_some_iff.mp hc).1
    have e : zHI.length = 100 := by decide +kernel
    omega
  · cases h
theorem zck0_ok {p : Nat} {c : zC} (h : zD p = some c) (h1 : p ≠ 1) (h2 : p ≠ 89) : gC g2 c = true := by
  have := List.all_eq_true.mp zck0_all p (List.mem_range.mpr (zD_lt h))
  unfold zck0 at this
  rw [h] at this
  have b1 : Nat.beq p 1 = false := by
    cases hb : Nat.beq p 1 with
    | false => rfl
    | true => exact absurd (Nat.eq_of_beq_eq_true hb) h1
  have b2 : Nat.beq p 89 = false := by
    cases hb : Nat.beq p 89 with
    | false => rfl
    | true => exact absurd (Nat.eq_of_beq_eq_true hb) h2
  rw [b1, b2] at this
  exact this
theorem TIB_0 : TIB.all (fun b => (Nat.beq b.1 0 && (ieq b.2.1 0 && ieq b.2.2 160)) || (Nat.blt 0 b.1 && Nat.blt b.1 27)) = true := by decide +kernel
theorem zWF_0 : zWF.all (fun f => Nat.beq f.1 4 && (Nat.blt 0 f.2.1 && (Nat.blt f.2.1 27 && (Nat.blt 0 f.2.2.1 && (Nat.blt f.2.2.1 27 && (Nat.blt 0 f.2.2.2.1 && Nat.blt f.2.2.2.1 27)))))) = true := by decide +kernel
theorem zWc_0 : gC g1 zWc = true := by decide +kernel
/-- class and reference change the text's length alike -/
theorem jump {z : Int} {h h1 h2 : aH} {σ1 σ2 : Nat → Int} {X1 X2 : zS} {M1 M2 : List Nat} {sc1 sc2 : List aV} (H : Iv z h) (H1 : ms (z, h, M1) σ1 X1 [] sc1 h1) (H2 : ms (z, h1, M2) σ2 X2 [] sc2 h2) {i : Nat} {d z' : Int} (hi : i = 0 ∨ i = 1) (hz : z' = (if i = 0 then z else 0) + d) (b0 : 0 ≤ z') (b1 : z' ≤ 160) (m1 : 90 ∉ M1) (m2 : 90 ∉ M2) (m3 : 1 ∉ M2) (e1 : zlc X1.2.2.1 1 = some (.inr (.inr (.inr (.inr (3, zF1.map (shE i d))))))) (e2 : zlc X2.2.2.1 89 = some (.inr (.inr (.inr (.inr (5, zF89.map (shE i d))))))) (e3 : ∀ p, p ≠ 1 → p ≠ 89 → zlc X2.2.2.1 p = none) : Iv z' h2 := by
  obtain ⟨σ, H⟩ := H
  have G := H σ ag.rf
  have G1 := H1 σ1 ag.rf
  have G2 := H2 σ2 ag.rf
  refine ⟨fun j => if j = 0 then z' else σ j, fun τ hτ => ?_⟩
  have hτ : ∀ j, j < 27 → τ j = if j = 0 then z' else σ j := hτ
  have t0 : τ 0 = z' := hτ 0 (by decide)
  have ts : ∀ j, 0 < j → j < 27 → τ j = σ j := fun j a b => by rw [hτ j b, if_neg (by omega)]
  have s10 : σ1 0 = z := G1.2.2.2.2.1.2.1
  have s11 : σ1 1 = 0 := G1.2.2.2.2.1.1
  have s20 : σ2 0 = z := G2.2.2.2.2.1.2.1
  have s21 : σ2 1 = 0 := G2.2.2.2.2.1.1
  refine ⟨⟨fun j v hv => (by cases hv), rfl⟩, fun p c hc => ?_, fun b hb => ?_, fun f hf => ?_, ⟨?_, t0, by decide⟩, fun p _ => rfl⟩
  · by_cases p90 : p = 90
    · subst p90
      have hc : some zWc = some c := hc
      cases hc
      obtain ⟨x, hx, mx⟩ := G.2.1 90 zWc rfl
      refine ⟨x, ?_, gC_ok (g1_ok ts) zWc_0 mx⟩
      rw [G2.2.2.2.2.2 90 m2]
      show h1[90]? = some x
      rw [G1.2.2.2.2.2 90 m1]
      exact hx
    · have hc : zD p = some c := by
        have : zg [(90, zWc)] p = some c := hc
        unfold zg zlc at this
        cases hb : Nat.beq 90 p with
        | true => exact absurd (Nat.eq_of_beq_eq_true hb).symm p90
        | false =>
          dsimp only at this
          rw [hb] at this
          exact this
      by_cases p1 : p = 1
      · subst p1
        rw [zD_1] at hc
        cases hc
        obtain ⟨x, hx, mx⟩ := G1.2.1 1 _ (by unfold zg; rw [e1])
        refine ⟨x, ?_, shC_ok (by decide) (by
          rw [t0, hz]
          rcases hi with rfl | rfl
          · rw [if_pos rfl, s10]
          · rw [if_neg (by decide), s11]) mx⟩
        rw [G2.2.2.2.2.2 1 m3]
        exact hx
      · by_cases p89 : p = 89
        · subst p89
          rw [zD_89] at hc
          cases hc
          obtain ⟨x, hx, mx⟩ := G2.2.1 89 _ (by unfold zg; rw [e2])
          exact ⟨x, hx, shC_ok (by decide) (by
            rw [t0, hz]
            rcases hi with rfl | rfl
            · rw [if_pos rfl, s20]
            · rw [if_neg (by decide), s21]) mx⟩
        · obtain ⟨x, hx, mx⟩ := G2.2.1 p c (by unfold zg; rw [e3 p p1 p89]; exact hc)
          exact ⟨x, hx, gC_ok (g2_ok σ2 τ) (zck0_ok hc p1 p89) mx⟩
  · have q := List.all_eq_true.mp TIB_0 b hb
    rcases Bool.or_eq_true_iff.mp q with q | q
    · have q := Bool.and_eq_true_iff.mp q
      have q2 := Bool.and_eq_true_iff.mp q.2
      rw [Nat.eq_of_beq_eq_true q.1, ieq_eq q2.1, ieq_eq q2.2, t0]
      exact ⟨b0, b1⟩
    · have q := Bool.and_eq_true_iff.mp q
      rw [ts b.1 (Nat.le_of_ble_eq_true q.1) (Nat.le_of_ble_eq_true q.2)]
      exact G.2.2.1 b hb
  · have q := List.all_eq_true.mp zWF_0 f hf
    have q := Bool.and_eq_true_iff.mp q
    have q2 := Bool.and_eq_true_iff.mp q.2
    have q3 := Bool.and_eq_true_iff.mp q2.2
    have q4 := Bool.and_eq_true_iff.mp q3.2
    have q5 := Bool.and_eq_true_iff.mp q4.2
    have q6 := Bool.and_eq_true_iff.mp q5.2
    have o := G.2.2.2.1 f hf
    obtain ⟨ft, fi, fj, fk, fd⟩ := f
    have q1 : ft = 4 := Nat.eq_of_beq_eq_true q.1
    subst q1
    show τ fk ≤ 24 * τ fi - 4 * τ fj
    rw [ts fi (Nat.le_of_ble_eq_true q2.1) (Nat.le_of_ble_eq_true q3.1), ts fj (Nat.le_of_ble_eq_true q4.1) (Nat.le_of_ble_eq_true q5.1), ts fk (Nat.le_of_ble_eq_true q6.1) (Nat.le_of_ble_eq_true q6.2)]
    exact o
  · rw [ts 1 (by decide) (by decide)]
    exact G.2.2.2.2.1.1
