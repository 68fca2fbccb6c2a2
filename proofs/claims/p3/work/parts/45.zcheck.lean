/-! THE CHECKER: what is checked of a method, and what it gives -/
def zfr (TT : List zP) : List zG → (List (zP × zG) → Bool) → Bool
  | [], k => k []
  | G :: g, k => match TT[G.1]? with
    | some t => zfr TT g (fun r => k ((t, G) :: r))
    | none => false
theorem zfr_ok {TT : List zP} : ∀ (g : List zG) (k : List (zP × zG) → Bool), zfr TT g k = true → ∃ fs, k fs = true ∧ fs.map (·.2) = g ∧ ∀ q ∈ fs, q.1 = ztp TT q.2.1
  | [], k, h => ⟨[], h, rfl, fun q hq => absurd hq List.not_mem_nil⟩
  | G :: g, k, h => by
    rw [zfr] at h
    split at h
    · rename_i t ht
      obtain ⟨fs, h1, h2, h3⟩ := zfr_ok g _ h
      refine ⟨(t, G) :: fs, h1, by rw [List.map_cons, h2], fun q hq => ?_⟩
      rcases List.mem_cons.mp hq with rfl | hq
      · unfold ztp
        rw [ht]
      · exact h3 q hq
    · cases h
def zltn (n : Nat) : List (Int × Nat) → Bool
  | [] => true
  | q :: t => match Nat.blt q.2 n with
    | true => zltn n t
    | false => false
theorem zltn_ok {n : Nat} {σ τ : Nat → Int} (h : ag n σ τ) : ∀ {ts : List (Int × Nat)}, zltn n ts = true → evl τ ts = evl σ ts
  | [], _ => rfl
  | q :: t, hz => by
    rw [zltn] at hz
    split at hz
    · rename_i hb
      rw [evl, evl, zltn_ok h hz, h q.2 (Nat.le_of_ble_eq_true hb)]
    · cases hz
def zck (LL : List ((aM × Nat × Nat) × aP)) (TT : List zP) (md : List Nat) (SS : List zSm) (NP : List (Nat × Nat)) (ND : List zNd) (XT : zS) (SP : List zSp) (D fu : Nat) (nd : zNd) : Bool := match Nat.ble nd.2.2.2.1.length D, zltn nd.2.2.1.2.2.2.2.2 nd.2.2.2.2.2, TT[nd.1]? with
  | true, true, some tp => zfr TT nd.2.2.2.1 (fun fs => frN (D - nd.2.2.2.1.length) (fun d => zgo LL TT md SS NP ND XT SP nd.2.2.2.2.1 nd.2.2.2.2.2 fu true fs d nd.1 tp nd.2.1 nd.2.2.1))
  | _, _, _ => false
def zcks (LL : List ((aM × Nat × Nat) × aP)) (TT : List zP) (md : List Nat) (SS : List zSm) (NP : List (Nat × Nat)) (ND : List zNd) (XT : zS) (SP : List zSp) (D fu : Nat) : List zNd → Bool
  | [] => true
  | nd :: t => match zck LL TT md SS NP ND XT SP D fu nd with
    | true => zcks LL TT md SS NP ND XT SP D fu t
    | false => false
theorem zcks_ok {LL : List ((aM × Nat × Nat) × aP)} {TT : List zP} {md : List Nat} {SS : List zSm} {NP : List (Nat × Nat)} {ND : List zNd} {XT : zS} {SP : List zSp} {D fu : Nat} : ∀ {l : List zNd}, zcks LL TT md SS NP ND XT SP D fu l = true → ∀ nd ∈ l, zck LL TT md SS NP ND XT SP D fu nd = true
  | [], _, nd, h => absurd h List.not_mem_nil
  | a :: t, hz, nd, h => by
    rw [zcks] at hz
    split at hz
    · rename_i q
      rcases List.mem_cons.mp h with rfl | h
      · exact q
      · exact zcks_ok hz nd h
    · cases hz
theorem nodes_ok {LL : List ((aM × Nat × Nat) × aP)} (hLL : LL.map (·.1) = MDl) {TT : List zP} (hT : ∀ mid pc tr, zlk (ztp TT mid) pc = some tr → ∃ op, lkb (pg LL mid) pc = some op ∧ Sd op tr) {md : List Nat} {SS : List zSm} (hS : ∀ q ∈ SS, SmOk LL q) {NP : List (Nat × Nat)} {ND : List zNd} {XT : zS} {SP : List zSp} {D fu : Nat} (hC : ∀ nd ∈ ND, zck LL TT md SS NP ND XT SP D fu nd = true) {z0 : Int} {h0 : aH} : ∀ N : Nat, ∀ nd ∈ ND, ∀ (σ : Nat → Int) (lv : aL) (st : List aV) (h : aH) (cf : List aFr), ms (z0, h0, md) σ nd.2.2.1 lv st h → (∀ τ, ag nd.2.2.1.2.2.2.2.2 σ τ → mFs τ nd.2.2.2.1 cf) → 0 ≤ nd.2.2.2.2.1 + evl σ nd.2.2.2.2.2 → nd.2.2.2.2.1 + evl σ nd.2.2.2.2.2 < N → cf.length ≤ D → Ex (Rl LL (D - cf.length)) (pg LL nd.1) nd.2.1 lv st h (Kf LL cf (D - cf.length) (fun r h' => ∃ σX, ms (z0, h0, md) σX XT [] (rl r) h')) := by
  intro N
  induction N with
  | zero => intro nd _ σ lv st h cf _ _ h1 h2 _; omega
  | succ N ih =>
    intro nd hnd σ lv st h cf H HF h1 h2 hD
    have hc := hC nd hnd
    unfold zck at hc
    split at hc
    · rename_i tp q1 q2 q3
      have q1 := Nat.le_of_ble_eq_true q1
      obtain ⟨fs, hz, e1, e2⟩ := zfr_ok _ _ hc
      rw [frN_eq] at hz
      have e3 : nd.2.2.2.1.length = cf.length := mFs_len (HF σ ag.rf)
      have e4 : fs.length = cf.length := by
        rw [← e3, ← e1, List.length_map]
      rw [e3] at hz
      refine zgo_ok hLL hT hS (M := nd.2.2.2.2.1 + evl σ nd.2.2.2.2.2) (D := D) (fun nd' hnd' σ' lv' st' h' cf' H' HF' a b c => ih nd' hnd' σ' lv' st' h' cf' H' HF' a (by omega) c) fu true fs (D - cf.length) nd.1 tp nd.2.1 nd.2.2.1 hz σ lv st h cf (by unfold ztp; rw [q3]) e2 (by omega) H (by rw [e1]; exact HF) (fun τ hτ => by rw [zltn_ok hτ q2])
    · cases hc
theorem sm_ok {LL : List ((aM × Nat × Nat) × aP)} (hLL : LL.map (·.1) = MDl) {TT : List zP} (hT : ∀ mid pc tr, zlk (ztp TT mid) pc = some tr → ∃ op, lkb (pg LL mid) pc = some op ∧ Sd op tr) {md : List Nat} {SS : List zSm} (hS : ∀ q ∈ SS, SmOk LL q) {NP : List (Nat × Nat)} {ND : List zNd} {XT : zS} {SP : List zSp} {D fu : Nat} (hC : ∀ nd ∈ ND, zck LL TT md SS NP ND XT SP D fu nd = true) {mid : Nat} {T : zS} {c : Int} (hc : ile 0 c = true) (hE : (mid, 0, T, [], c, []) ∈ ND) : SmOk LL (mid, D + 1, T, XT, md) := by
  intro z0 h as σ H hmd
  have hc := ile_le hc
  obtain ⟨n, r, h', a, b⟩ := nodes_ok hLL hT hS hC (z0 := z0) (h0 := h) (c.toNat + 1) _ hE σ (lvx 0 as) [] h [] H (fun τ _ => True.intro) (by show 0 ≤ c + 0; omega) (by show c + 0 < ((c.toNat + 1 : Nat) : Int); omega) (Nat.zero_le _)
  unfold zmd at hmd
  split at hmd
  · rename_i x hx
    split at hmd
    · rename_i h00
      refine ⟨r, h', ⟨x, n, hx, Nat.le_of_ble_eq_true hmd, h00, ?_⟩, b⟩
      have e : pg LL mid = x.2 := by unfold pg; rw [show LL[mid]? = some x from hx]
      rw [← e]
      exact a
    · cases hmd
  · cases hmd
-- the tables
def Tkp : List (Nat × aO) → List (Nat × zT) → Prop
  | [], [] => True
  | a :: p, b :: t => a.1 = b.1 ∧ Sd a.2 b.2 ∧ Tkp p t
  | _, _ => False
def Tkb : aP → zP → Prop
  | [], [] => True
  | a :: p, b :: t => a.1 = b.1 ∧ Tkp a.2 b.2 ∧ Tkb p t
  | _, _ => False
theorem Tkp_ok : ∀ {p : List (Nat × aO)} {t : List (Nat × zT)}, Tkp p t → ∀ {pc : Nat} {tr : zT}, zlkp t pc = some tr → ∃ op, lkp p pc = some op ∧ Sd op tr
  | [], [], _, pc, tr, h => by cases h
  | [], _ :: _, hT, _, _, _ => hT.elim
  | _ :: _, [], hT, _, _, _ => hT.elim
  | a :: p, b :: t, hT, pc, tr, h => by
    obtain ⟨e, s, r⟩ := hT
    rw [zlkp] at h
    rw [lkp, e]
    split at h
    · rename_i q
      cases h
      rw [q]
      exact ⟨a.2, rfl, s⟩
    · rename_i q
      rw [q]
      exact Tkp_ok r h
theorem Tkb_ok : ∀ {p : aP} {t : zP}, Tkb p t → ∀ {pc : Nat} {tr : zT}, zlk t pc = some tr → ∃ op, lkb p pc = some op ∧ Sd op tr
  | [], [], _, pc, tr, h => by cases h
  | [], _ :: _, hT, _, _, _ => hT.elim
  | _ :: _, [], hT, _, _, _ => hT.elim
  | a :: p, b :: t, hT, pc, tr, h => by
    obtain ⟨e, s, r⟩ := hT
    rw [zlk] at h
    rw [lkb, e]
    split at h
    · rename_i q
      rw [q]
      exact Tkp_ok s h
    · rename_i q
      rw [q]
      exact Tkb_ok r h
def Tal : List ((aM × Nat × Nat) × aP) → List zP → Prop
  | [], [] => True
  | x :: l, t :: s => (t = [] ∨ Tkb x.2 t) ∧ Tal l s
  | _, _ => False
theorem Tal_ok : ∀ {l : List ((aM × Nat × Nat) × aP)} {s : List zP}, Tal l s → ∀ mid pc tr, zlk (ztp s mid) pc = some tr → ∃ op, lkb (pg l mid) pc = some op ∧ Sd op tr
  | [], [], _, mid, pc, tr, h => by
    unfold ztp at h
    simp at h
    cases h
  | [], _ :: _, hT, _, _, _, _ => hT.elim
  | _ :: _, [], hT, _, _, _, _ => hT.elim
  | x :: l, t :: s, hT, 0, pc, tr, h => by
    obtain ⟨a, -⟩ := hT
    have h : zlk t pc = some tr := h
    show ∃ op, lkb x.2 pc = some op ∧ Sd op tr
    rcases a with rfl | a
    · cases h
    · exact Tkb_ok a h
  | x :: l, t :: s, hT, mid + 1, pc, tr, h => Tal_ok hT.2 mid pc tr h
theorem Tkc {pc : Nat} {op : aO} {tr : zT} {p : List (Nat × aO)} {t : List (Nat × zT)} (h : Sd op tr) (r : Tkp p t) : Tkp ((pc, op) :: p) ((pc, tr) :: t) := ⟨rfl, h, r⟩
theorem Tkn : Tkp [] [] := True.intro
theorem Tbc {k : Nat} {p : List (Nat × aO)} {t : List (Nat × zT)} {P : aP} {T : zP} (h : Tkp p t) (r : Tkb P T) : Tkb ((k, p) :: P) ((k, t) :: T) := ⟨rfl, h, r⟩
theorem Tbn : Tkb [] [] := True.intro
/-- one of the two is a number -/
def g_ml (a b c d : Int) : Int × Int := match ieq c d with
  | true => g_mul c d a b
  | false => g_mul a b c d
theorem g_ml_ok : gOk f_imul g_ml := by
  intro a b c d x y h1 h2 h3 h4
  unfold g_ml
  split
  · have := g_mul_ok c d a b y x h3 h4 h1 h2
    rw [show f_imul y x = f_imul x y from Int32.mul_comm y x] at this
    exact this
  · exact g_mul_ok a b c d x y h1 h2 h3 h4
def gxm : Int → Int → Int → Int → Int × Int := gx f_imul g_ml
def gxa : Int → Int → Int → Int → Int × Int := gx f_iand g_and
def gxo : Int → Int → Int → Int → Int × Int := gx f_ior g_or
def gxx : Int → Int → Int → Int → Int × Int := gx f_ixor gA
def gxl : Int → Int → Int → Int → Int × Int := gx f_ishl gA
def gxr : Int → Int → Int → Int → Int × Int := gx f_ishr gA
def gxu : Int → Int → Int → Int → Int × Int := gx f_iushr gA
theorem d_mul {n : Nat} : Sd (oS (gI2 f_imul) n) (tI2 gxm n) := d_I2 (gx_ok g_ml_ok)
theorem d_and {n : Nat} : Sd (oS (gI2 f_iand) n) (tI2 gxa n) := d_I2 (gx_ok g_and_ok)
theorem d_or {n : Nat} : Sd (oS (gI2 f_ior) n) (tI2 gxo n) := d_I2 (gx_ok g_or_ok)
theorem d_xor {n : Nat} : Sd (oS (gI2 f_ixor) n) (tI2 gxx n) := d_I2 (gx_ok (gA_ok _))
theorem d_shl {n : Nat} : Sd (oS (gI2 f_ishl) n) (tI2 gxl n) := d_I2 (gx_ok (gA_ok _))
theorem d_shr {n : Nat} : Sd (oS (gI2 f_ishr) n) (tI2 gxr n) := d_I2 (gx_ok (gA_ok _))
theorem d_ushr {n : Nat} : Sd (oS (gI2 f_iushr) n) (tI2 gxu n) := d_I2 (gx_ok (gA_ok _))
