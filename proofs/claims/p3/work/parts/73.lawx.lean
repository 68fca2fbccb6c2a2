/-! THE LAW: its context, its steps, its two kinds of calls -/
abbrev cX : Type := aG × Program × Launch × Env × State × MethodId × Array Value × List Frame × Method × Code
/-- the law at its frame: a script of L ints -/
def LX (Γ : cX) (L : Nat) (xs : Nat → Int32) : Prop :=
  Fx Γ.1 ML 40 Γ.2.1 room_1 Γ.2.2.2.2.1 Γ.2.2.2.2.2.1 Γ.2.2.2.2.2.2.1 Γ.2.2.2.2.2.2.2.2.1 Γ.2.2.2.2.2.2.2.2.2 ∧ Γ.1.1 = Γ.2.2.2.2.1.heap.size ∧ Γ.1.2.2.2.2.2.2 < Γ.2.2.2.2.1.heap.size ∧ va_X Γ.1.2.2.2.2.2.2 L xs Γ.2.2.2.2.1 Γ.2.2.2.2.1.heap
def WY (Γ : cX) (Q : State → Prop) (pc : Nat) (lv : aL) (st : List aV) (h : aH) (a b : Nat) : Prop :=
  Wc Γ.1 ML.2.2.1 Γ.2.1 Γ.2.2.1 Γ.2.2.2.1 room_1 Γ.2.2.2.2.1 Γ.2.2.2.2.2.1 Γ.2.2.2.2.2.2.1 Γ.2.2.2.2.2.2.2.1 Γ.2.2.2.2.2.2.2.2.1 Γ.2.2.2.2.2.2.2.2.2 Q pc lv st h a b
def WX (Γ : cX) (Q : State → Prop) (pc : Nat) (lv : aL) (st : List aV) (h : aH) : Prop := WY Γ Q pc lv st h 100 21436
theorem r100 : 100 + 0 ≤ room_1.cells := by decide
theorem r214 : 21436 + 0 ≤ room_1.slots := by decide
theorem wn {Γ : cX} {L : Nat} {xs : Nat → Int32} (C : LX Γ L xs) {Q : State → Prop} {pc pc' : Nat} {lv lv' : aL} {st st' : List aV} {h h1 : aH} {op : aO} (hop : Ok ML pc op) (hx : op lv st h = some (.inl (pc', lv', st', h1, 0, 0))) (k : WX Γ Q pc' lv' st' h1) : WX Γ Q pc lv st h :=
  hop Γ.1 40 Γ.2.1 Γ.2.2.1 Γ.2.2.2.1 room_1 Γ.2.2.2.2.1 Γ.2.2.2.2.2.1 Γ.2.2.2.2.2.2.1 Γ.2.2.2.2.2.2.2.1 Γ.2.2.2.2.2.2.2.2.1 Γ.2.2.2.2.2.2.2.2.2 C.1 lv st h _ hx 100 21436 Q r100 r214 k
theorem wcall {Γ : cX} {L : Nat} {xs : Nat → Int32} (C : LX Γ L xs) {Q : State → Prop} {pc mid : Nat} {lv : aL} {st as rest : List aV} {h h1 : aH} {op : aO} {r : Option Value} (hop : Ok ML pc op) (hx : op lv st h = some (.inr (.inl (mid, as, rest)))) (hr : Rl LL 40 mid as h r h1) (k : WX Γ Q (pc + 3) lv (rl r ++ rest) h1) : WX Γ Q pc lv st h := by
  have hM := Rl_sound Γ.2.2.1 Γ.1 C.1.2.1.2.2.2 LL_1 LL_2 LL_3 40 mid as h r h1 hr
  have hm : (MD mid).2 = (0, 0) := by
    obtain ⟨x, n, hx, -, h0, -⟩ := hr
    have hmd : MD mid = x.1 := by
      unfold MD
      rw [← LL_1, List.getD_eq_getElem?_getD, List.getElem?_map, hx]
      rfl
    rw [hmd]
    exact h0
  have K := hop Γ.1 40 Γ.2.1 Γ.2.2.1 Γ.2.2.2.1 room_1 Γ.2.2.2.2.1 Γ.2.2.2.2.2.1 Γ.2.2.2.2.2.2.1 Γ.2.2.2.2.2.2.2.1 Γ.2.2.2.2.2.2.2.2.1 Γ.2.2.2.2.2.2.2.2.2 C.1 lv st h _ hx 100 21436 Q r h1 hM
  dsimp only at K
  rw [hm] at K
  exact K r100 r214 k
/-- an int of the script -/
theorem wld {Γ : cX} {L : Nat} {xs : Nat → Int32} (C : LX Γ L xs) (hL : L ≤ 2048) {Q : State → Prop} {pc i q : Nat} (hd : decode ML.2.1 pc = .ok (.iaload, 1)) (hi : i < L) {lv : aL} {st : List aV} {h : aH} (k : WX Γ Q (pc + 1) lv (.inl (.int (xs i)) :: st) h) : WX Γ Q pc lv (.inl (.int (nI i)) :: .inr (2, q) :: st) h := by
  obtain ⟨hF, hG, hlt, hX⟩ := C
  have h31 : i < 2 ^ 31 := by omega
  intro H locs ls hP hS hll
  refine va_sld hF.1.1 hF.1.2.1 hX hlt (A := fun q : Nat => Γ.1.1 ≤ q) (by rw [hG]; exact Nat.not_le.mpr hlt) hS (fun q => q.elim (nI_pos h31) (fun q => by rw [nI_clamp h31] at q; omega)) hd ?_
  rw [nI_clamp h31]
  exact k H locs ls hP hS hll
theorem wlen {Γ : cX} {L : Nat} {xs : Nat → Int32} (C : LX Γ L xs) {Q : State → Prop} {pc q : Nat} (hd : decode ML.2.1 pc = .ok (.arraylength, 1)) {lv : aL} {st : List aV} {h : aH} (k : WX Γ Q (pc + 1) lv (.inl (.int (nI L)) :: st) h) : WX Γ Q pc lv (.inr (2, q) :: st) h := by
  obtain ⟨hF, hG, hlt, hX⟩ := C
  intro H locs ls hP hS hll
  exact va_slen hF.1.1 hF.1.2.1 hX hlt (A := fun q : Nat => Γ.1.1 ≤ q) (by rw [hG]; exact Nat.not_le.mpr hlt) hS hd (k H locs ls hP hS hll)
def lvJ (j : Nat) : aL := [(3, .inl (.int (nI (4 * j)))), (2, .inl (.ref 89)), (1, .inl (.ref 0)), (0, .inr (2, 0))]
theorem oI2 (f : Int32 → Int32 → Int32) (n : Nat) (lv : aL) (x y : Int32) (r : List aV) (h : aH) : oS (gI2 f) n lv (.inl (.int y) :: .inl (.int x) :: r) h = some (.inl (n, lv, .inl (.int (f x y)) :: r, h, 0, 0)) := by
  unfold oS gI2
  dsimp only
  rw [frI_eq]
  rfl
theorem welem {Γ : cX} {L : Nat} {xs : Nat → Int32} (C : LX Γ L xs) (hL : L ≤ 2048) {Q : State → Prop} {j : Nat} (hj : 4 * j + 4 ≤ L) (t : Nat) (ht : t < 4) {p0 p1 p2 p3 p4 : Nat} {v : Int32} (o0 : Ok ML p0 (oLA 0 p1)) (o1 : Ok ML p1 (oLI 3 p2)) (o2 : Ok ML p2 (oS (gKo (.int v)) p3)) (hv : v = nI t) (o3 : Ok ML p3 (oS (gI2 f_iadd) p4)) (hd : decode ML.2.1 p4 = .ok (.iaload, 1)) {st : List aV} {h : aH} (k : WX Γ Q (p4 + 1) (lvJ j) (.inl (.int (xs (4 * j + t))) :: st) h) : WX Γ Q p0 (lvJ j) st h := by
  refine wn C o0 (show oLA 0 p1 (lvJ j) st h = some (.inl (p1, lvJ j, .inr (2, 0) :: st, h, 0, 0)) from rfl) ?_
  refine wn C o1 (show oLI 3 p2 (lvJ j) (.inr (2, 0) :: st) h = some (.inl (p2, lvJ j, .inl (.int (nI (4 * j))) :: .inr (2, 0) :: st, h, 0, 0)) from rfl) ?_
  refine wn C o2 (show oS (gKo (.int v)) p3 (lvJ j) (.inl (.int (nI (4 * j))) :: .inr (2, 0) :: st) h = some (.inl (p3, lvJ j, .inl (.int v) :: .inl (.int (nI (4 * j))) :: .inr (2, 0) :: st, h, 0, 0)) from rfl) ?_
  refine wn C o3 (oI2 f_iadd p4 _ _ _ _ _) ?_
  rw [show f_iadd (nI (4 * j)) v = nI (4 * j + t) by rw [hv]; exact nI_add _ _]
  exact wld C hL hd (by omega) k
theorem ocv0 {ci mid q : Nat} {lv : aL} {rest : List aV} {h : aH} {fs : List Value} (hq : h[q]? = some (.inr (.inr (.inr (ci, fs))))) (hr : Nat.ble (catS rest) 8 = true) : oCV ci mid 0 lv (.inl (.ref q) :: rest) h = some (.inr (.inl (mid, aq q 0 0 0 0, rest))) := by
  unfold oCV
  dsimp only [popN]
  rw [hq]
  dsimp only
  rw [Nat.beq_refl, hr]
  rfl
theorem ocv1 {ci mid q : Nat} {lv : aL} {rest : List aV} {h : aH} {fs : List Value} (hq : h[q]? = some (.inr (.inr (.inr (ci, fs))))) (hr : Nat.ble (catS rest) 8 = true) {a : Int32} : oCV ci mid 1 lv (.inl (.int a) :: .inl (.ref q) :: rest) h = some (.inr (.inl (mid, aq q a 0 0 1, rest))) := by
  unfold oCV
  dsimp only [popN]
  rw [hq]
  dsimp only
  rw [Nat.beq_refl, hr]
  rfl
theorem ocv2 {ci mid q : Nat} {lv : aL} {rest : List aV} {h : aH} {fs : List Value} (hq : h[q]? = some (.inr (.inr (.inr (ci, fs))))) (hr : Nat.ble (catS rest) 8 = true) {a b : Int32} : oCV ci mid 2 lv (.inl (.int b) :: .inl (.int a) :: .inl (.ref q) :: rest) h = some (.inr (.inl (mid, aq q a b 0 2, rest))) := by
  unfold oCV
  dsimp only [popN]
  rw [hq]
  dsimp only
  rw [Nat.beq_refl, hr]
  rfl
theorem ocv3 {ci mid q : Nat} {lv : aL} {rest : List aV} {h : aH} {fs : List Value} (hq : h[q]? = some (.inr (.inr (.inr (ci, fs))))) (hr : Nat.ble (catS rest) 8 = true) {a b c : Int32} : oCV ci mid 3 lv (.inl (.int c) :: .inl (.int b) :: .inl (.int a) :: .inl (.ref q) :: rest) h = some (.inr (.inl (mid, aq q a b c 3, rest))) := by
  unfold oCV
  dsimp only [popN]
  rw [hq]
  dsimp only
  rw [Nat.beq_refl, hr]
  rfl
theorem ms_obj {K : zK} {σ : Nat → Int} {s : zS} {lv : aL} {sc : List aV} {h : aH} (H : ms K σ s lv sc h) {p ci : Nat} {F : List zE} (hp : zg s.2.2.1 p = some (.inr (.inr (.inr (.inr (ci, F)))))) : ∃ fs, h[p]? = some (.inr (.inr (.inr (ci, fs)))) := by
  obtain ⟨x, hx, mx⟩ := (H σ ag.rf).2.1 p _ hp
  obtain ⟨fs, rfl, -⟩ := mc_obj mx
  exact ⟨fs, hx⟩
theorem Iv.o0 {z : Int} {h : aH} (H : Iv z h) : ∃ fs, h[0]? = some (.inr (.inr (.inr (4, fs)))) := by
  obtain ⟨σ, H⟩ := H
  exact ms_obj H (F := [zp 1, zp 4, zp 14, zp 24, zp 86, zi, zi, zi, zi]) rfl
theorem Iv.o89 {z : Int} {h : aH} (H : Iv z h) : ∃ fs, h[89]? = some (.inr (.inr (.inr (5, fs)))) := by
  obtain ⟨σ, H⟩ := H
  exact ms_obj H (F := zF89) rfl
/-- a call whose answer is an int -/
theorem call2 {S : zSm} (hS : SmOk LL S) {q k : Nat} {x1 x2 z1 z2 : Int} (hk : ckE S q k x1 x2 z1 z2 = true) (hX : ckX S = true) {i : Nat} {w : Int} (hs : S.2.2.2.1.2.1 = [(0, i, w)]) {z : Int} {h : aH} (H : Iv z h) (a b c : Int32) (hx1 : x1 ≤ a.toInt) (hx2 : a.toInt ≤ x2) (hz1 : z1 ≤ z) (hz2 : z ≤ z2) : ∃ (v : Int32) (h' : aH), Rl LL 40 S.1 (aq q a b c k) h (some (.int v)) h' ∧ Iv z h' ∧ (i = 1 → v = Int32.ofInt w) := by
  obtain ⟨r, h', R, σX, HX⟩ := callE hS hk H a b c hx1 hx2 hz1 hz2
  have G := HX σX ag.rf
  have e := G.1.2
  rw [hs] at e
  have e := rl_some e
  subst e
  refine ⟨_, h', R, callX hX H HX, fun hi => ?_⟩
  subst hi
  have : σX 1 = 0 := G.2.2.2.2.1.1
  rw [this, Int.zero_add]
theorem call2L {S : zSm} (hS : SmOk LL S) {q k : Nat} {x1 x2 z1 z2 : Int} (hk : ckE S q k x1 x2 z1 z2 = true) (hX : ckX S = true) {i : Nat} {w : Int} (hs : S.2.2.2.1.2.1 = [(1, i, w)]) {z : Int} {h : aH} (H : Iv z h) (a b c : Int32) (hx1 : x1 ≤ a.toInt) (hx2 : a.toInt ≤ x2) (hz1 : z1 ≤ z) (hz2 : z ≤ z2) : ∃ (v : Int64) (h' : aH), Rl LL 40 S.1 (aq q a b c k) h (some (.long v)) h' ∧ Iv z h' := by
  obtain ⟨r, h', R, σX, HX⟩ := callE hS hk H a b c hx1 hx2 hz1 hz2
  have G := HX σX ag.rf
  have e := G.1.2
  rw [hs] at e
  have e := rl_some e
  subst e
  exact ⟨_, h', R, callX hX H HX⟩
theorem i32b (x : Int32) : -2147483648 ≤ x.toInt ∧ x.toInt ≤ 2147483647 := ⟨Int32.le_toInt x, Int32.toInt_le x⟩
/-- behind a call of the class that changed the text's length, one of the reference -/
def ckP (S1 S2 : zSm) (k : Nat) (x1 x2 z1 z2 : Int) : Bool := match zsubs S1.2.2.2.2 S1.2.2.2.2, zmd LL S2.1 (k + 1), Nat.ble S2.2.1 40, Nat.blt k 4 with
  | true, true, true, true => zaf S1.2.2.2.1 S1.2.2.2.2 (lq 89 k, [], [(90, zWc)], Bq x1 x2 z1 z2, zWF, 30) (fun s => zin S2.2.2.1 [] s.1 [] s.2.2.1 s.2.2.2.1 s.2.2.2.2.1 [] (fun _ => true))
  | _, _, _, _ => false
theorem zlc_2 {c d : zC} {p : Nat} (h1 : p ≠ 1) (h2 : p ≠ 89) : zlc [(1, c), (89, d)] p = none := by
  have b1 : Nat.beq 1 p = false := by
    cases hb : Nat.beq 1 p with
    | false => rfl
    | true => exact absurd (Nat.eq_of_beq_eq_true hb).symm h1
  have b2 : Nat.beq 89 p = false := by
    cases hb : Nat.beq 89 p with
    | false => rfl
    | true => exact absurd (Nat.eq_of_beq_eq_true hb).symm h2
  rw [zlc]
  dsimp only
  rw [b1]
  dsimp only
  rw [zlc]
  dsimp only
  rw [b2]
  rfl
theorem twoJ {S1 S2 : zSm} (hS1 : SmOk LL S1) (hS2 : SmOk LL S2) {k : Nat} {x1 x2 z1 z2 : Int} (c1 : ckE S1 0 k x1 x2 z1 z2 = true) (c2 : ckP S1 S2 k x1 x2 z1 z2 = true) {i : Nat} {d z' : Int} (hi : i = 0 ∨ i = 1) (m1 : 90 ∉ S1.2.2.2.2) (m2 : 90 ∉ S2.2.2.2.2) (m3 : 1 ∉ S2.2.2.2.2) (e1 : zlc S1.2.2.2.1.2.2.1 1 = some (.inr (.inr (.inr (.inr (3, zF1.map (shE i d))))))) (e4 : zg S1.2.2.2.1.2.2.1 89 = some (.inr (.inr (.inr (.inr (5, zF89)))))) {cc : zC} (e2 : S2.2.2.2.1.2.2.1 = [(1, cc), (89, .inr (.inr (.inr (.inr (5, zF89.map (shE i d))))))]) {w : Int} (s1 : S1.2.2.2.1.2.1 = [(0, 0, w)]) (s2 : S2.2.2.2.1.2.1 = [(0, 0, w)]) {z : Int} {h : aH} (H : Iv z h) (a b c : Int32) (hx1 : x1 ≤ a.toInt) (hx2 : a.toInt ≤ x2) (hz1 : z1 ≤ z) (hz2 : z ≤ z2) (hz : z' = (if i = 0 then z else 0) + d) (b0 : 0 ≤ z') (b1 : z' ≤ 160) : ∃ (v : Int32) (h1 h2 : aH), Rl LL 40 S1.1 (aq 0 a b c k) h (some (.int v)) h1 ∧ (∃ fs, h1[89]? = some (.inr (.inr (.inr (5, fs))))) ∧ Rl LL 40 S2.1 (aq 89 a b c k) h1 (some (.int v)) h2 ∧ Iv z' h2 := by
  obtain ⟨r1, h1, R1, σ1, HX1⟩ := callE hS1 c1 H a b c hx1 hx2 hz1 hz2
  have G1 := HX1 σ1 ag.rf
  have f1 := G1.1.2
  rw [s1] at f1
  have f1 := rl_some f1
  unfold ckP at c2
  split at c2
  · rename_i k1 k2 k3 k4
    obtain ⟨σ, H0⟩ := H.md S1.2.2.2.2
    have HA := ms_args H0 89 k a b c hx1 hx2 hz1 hz2
    obtain ⟨s', σ', q, HB, -, -⟩ := zaf_ok (K := (z, h, S1.2.2.2.2)) HA HX1 k1 c2
    obtain ⟨l', st', hp', B', F', n'⟩ := s'
    obtain ⟨th, σT, -, -, HT, -⟩ := zin_ok (K' := (z, h1, S2.2.2.2.2)) (fs := []) (cf := []) (ms_nst HB) True.intro q rfl (fun p _ => rfl)
    obtain ⟨r2, h2, R2, σ2, HX2⟩ := hS2 z h1 (aq 89 a b c k) σT HT (by rw [aq_cat 89 a b c k (Nat.le_of_ble_eq_true k4)]; exact k2)
    have G2 := HX2 σ2 ag.rf
    have f2 := G2.1.2
    rw [s2] at f2
    have f2 := rl_some f2
    have t1 : σ1 0 = z := G1.2.2.2.2.1.2.1
    have t2 : σ2 0 = z := G2.2.2.2.2.1.2.1
    refine ⟨Int32.ofInt (z + w), h1, h2, ?_, ms_obj HX1 e4, ?_, ?_⟩
    · have : r1 = some (.int (Int32.ofInt (z + w))) := by rw [f1]; show some (Value.int (Int32.ofInt (σ1 0 + w))) = _; rw [t1]
      rw [← this]
      exact R1
    · have : r2 = some (.int (Int32.ofInt (z + w))) := by rw [f2]; show some (Value.int (Int32.ofInt (σ2 0 + w))) = _; rw [t2]
      rw [← this]
      exact Rl_le (Nat.le_of_ble_eq_true k3) R2
    · exact jump H HX1 HX2 hi hz b0 b1 m1 m2 m3 e1 (by rw [e2]; rfl) (fun p p1 p2 => by rw [e2]; exact zlc_2 p1 p2)
  · cases c2
