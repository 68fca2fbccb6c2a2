/-! A SMALL MACHINE OF OUR OWN over places instead of addresses: what a step of it does, the machine does (parts 02 to 04); place i lies at the address S + i. -/
abbrev aE : Type := List Int32 ⊕ List Int64 ⊕ List (Option Nat) ⊕ (Nat × List Value)
abbrev aH : Type := List aE
/-- a value; or the int (0), or its long (1), of a variable: 3 i: below 0; 3 B + 1: B or more; 3 i + 2: any; or the law's script (2) -/
abbrev aV : Type := Value ⊕ (Nat × Nat)
abbrev aL : Type := List (Nat × aV)
abbrev aM : Type := MethodName × ByteArray × Nat × Option FieldType
abbrev aX : Type := (Nat × aL × List aV × aH × Nat × Nat) ⊕ (Nat × List aV × List aV) ⊕ Option Value
abbrev aO : Type := aL → List aV → aH → Option aX
abbrev aG : Type := Nat × va_G × ClassId × ClassId × ClassId × (Nat → Int32) × Nat
def tv (S : Nat) : Value → Value
  | .ref i => .ref (S + i)
  | v => v
theorem tv_cat (S : Nat) (v : Value) : (tv S v).category = v.category := by cases v <;> rfl
def tx (G : aG) : aV → Value
  | .inl v => tv G.1 v
  | .inr (0, i) => .int (G.2.2.2.2.2.1 i)
  | .inr (1, i) => .long (G.2.2.2.2.2.1 i).toInt64
  | .inr (_ + 2, _) => .ref G.2.2.2.2.2.2
def ac : aV → Nat
  | .inl v => v.category
  | .inr (0, _) => 1
  | .inr (1, _) => 2
  | .inr (_ + 2, _) => 1
theorem tx_cat (G : aG) (v : aV) : (tx G v).category = ac v := by
  match v with
  | .inl v => exact tv_cat G.1 v
  | .inr (0, i) => rfl
  | .inr (1, i) => rfl
  | .inr (k + 2, i) => rfl
/-- the variables are as their numbers say -/
def Rh (ρ : Nat → Int32) : Prop := (∀ i, ρ (3 * i) < 0) ∧ ∀ B, B < 1000 → nI B ≤ ρ (3 * B + 1)
def te (G : aG) : aE → va_E
  | .inl l => .inl (G.2.2.1, l.length, .inl (fun j => l.getD j 0))
  | .inr (.inl l) => .inl (G.2.2.2.1, l.length, .inr (.inl (fun j => l.getD j 0)))
  | .inr (.inr (.inl l)) => .inl (G.2.2.2.2.1, l.length, .inr (.inr (.inr (.inr (fun j => (l.getD j none).map (G.1 + ·))))))
  | .inr (.inr (.inr o)) => .inr (o.1, o.2.map (tv G.1))
def tw (G : aG) : Nat → aH → va_W
  | _, [] => []
  | o, e :: t => (o, te G e) :: tw G (o + 1) t
theorem tw_get (G : aG) : ∀ (h : aH) (o k : Nat), (tw G o h)[k]? = (h[k]?).map (fun e => (o + k, te G e))
  | [], o, k => by simp [tw]
  | e :: t, o, 0 => by simp [tw]
  | e :: t, o, k + 1 => by
    have := tw_get G t (o + 1) k
    simp only [tw, List.getElem?_cons_succ, this]
    congr 1
    funext x
    rw [show o + 1 + k = o + (k + 1) by omega]
theorem tw_set (G : aG) (e : aE) : ∀ (h : aH) (o k : Nat), tw G o (h.set k e) = (tw G o h).set k (o + k, te G e)
  | [], o, k => by simp [tw]
  | x :: t, o, 0 => by simp [tw]
  | x :: t, o, k + 1 => by
    have := tw_set G e t (o + 1) k
    simp only [tw, List.set_cons_succ, this]
    rw [show o + 1 + k = o + (k + 1) by omega]
theorem tw_app (G : aG) (e : aE) : ∀ (h : aH) (o : Nat), tw G o (h ++ [e]) = tw G o h ++ [(o + h.length, te G e)]
  | [], o => by simp [tw]
  | x :: t, o => by
    have := tw_app G e t (o + 1)
    simp only [List.cons_append, tw, this, List.length_cons]
    rw [show o + 1 + t.length = o + (t.length + 1) by omega]
theorem tw_D (G : aG) (h : aH) : va_D (fun q : Nat => G.1 ≤ q) (tw G G.1 h) := by
  refine ⟨fun i j p q hi hj e => ?_, fun k q hk => ?_⟩
  · rw [tw_get] at hi hj
    obtain ⟨x, -, rfl⟩ := Option.map_eq_some_iff.mp hi
    obtain ⟨y, -, rfl⟩ := Option.map_eq_some_iff.mp hj
    simp only at e
    omega
  · rw [tw_get] at hk
    obtain ⟨x, -, rfl⟩ := Option.map_eq_some_iff.mp hk
    exact Nat.le_add_right _ _
def Hp (G : aG) (h : aH) (H : Heap) : Prop := va_P G.2.1 vwCl (tw G G.1 h) H ∧ H.size = G.1 + h.length
theorem hp_at {G : aG} {h : aH} {k : Nat} {e : aE} (hk : h[k]? = some e) : (tw G G.1 h)[k]? = some (G.1 + k, te G e) := by rw [tw_get, hk]; rfl
theorem hp_set {G : aG} {h : aH} {H H1 : Heap} {k : Nat} {e e' : aE} (hp : Hp G h H) (hk : h[k]? = some e) (hz : H1.size = H.size) (oq : ∀ q : Nat, q ≠ G.1 + k → H1[q]? = H[q]?) (hc : va_at G.2.1 vwCl (G.1 + k, te G e') H1) : Hp G (h.set k e') H1 := by
  refine ⟨?_, by rw [hz, hp.2, List.length_set]⟩
  rw [tw_set]
  exact hp.1.set (tw_D G h) (hp_at hk) hc oq
theorem hp_put {G : aG} {h : aH} {k i : Nat} {e : aE} {s : State} {H H1 : Heap} {locs : List Loc} (hS : va_S (fun q : Nat => G.1 ≤ q) s.heap H locs) (hz : H1.size = H.size) (oq : ∀ q : Nat, q ≠ G.1 + k → H1[q]? = H[q]?) : va_S (fun q : Nat => G.1 ≤ q) s.heap H1 (locs ++ [⟨G.1 + k, i⟩]) := hS.put hz oq (Nat.le_add_right _ _)
theorem hp_push {G : aG} {h : aH} {H H1 : Heap} {e : aE} (hp : Hp G h H) (hz : H1.size = H.size + 1) (oq : ∀ q : Nat, q < H.size → H1[q]? = H[q]?) (hc : va_at G.2.1 vwCl (H.size, te G e) H1) : Hp G (h ++ [e]) H1 := by
  refine ⟨?_, by rw [hz, hp.2, List.length_append]; rfl⟩
  rw [tw_app]
  refine (hp.1.kept (fun k q hk => oq q.1 ((hp.1 k q hk).lt))).app (fun k q hk => ?_)
  have hz : k < 1 := (List.getElem?_eq_some_iff.mp hk).1
  rw [show k = 0 by omega] at hk
  cases hk
  rw [← hp.2]
  exact hc
theorem va_S.grow {A : Nat → Prop} {H0 H H1 : Heap} {locs : List Loc} (hS : va_S A H0 H locs) (hz : H.size ≤ H1.size) (oq : ∀ q : Nat, q < H.size → H1[q]? = H[q]?) : va_S A H0 H1 locs := ⟨Nat.le_trans hS.1 hz, fun q h1 h2 => (oq q (Nat.lt_of_lt_of_le h1 hS.1)).trans (hS.2.1 q h1 h2), hS.2.2⟩
def tT (G : aG) : List (ClassId × FieldType) := [(G.2.2.1, .int), (G.2.2.2.1, .long), (G.2.2.2.2.1, .object RX0)]
def nw_1 : Cond := .methodLinkNest RX4 18 yX0_init RX4
def nw_2 : Cond := .methodLinkNest RX2 24 yX0_init RX4
def nw_3 : Cond := .methodLinkNest RX3 75 yX4_bit RX4
def nw_4 : Cond := .methodLinkNest RX0 82 yX4_bit RX4
def nw_5 : Cond := .methodLinkNest RX1 82 yX4_bit RX4
/-- what is carried beside the good words -/
def Kx (G : aG) (U : State) : Prop := va_K G.2.1 vwCl (tT G) U ∧ va_AO RX0 U ∧ va_Nw nw_1 U ∧ va_Nw nw_2 U ∧ va_Nw nw_3 U ∧ va_Nw nw_4 U ∧ va_Nw nw_5 U
theorem Kx.warm {G : aG} {s U : State} (hW : s.WarmedH U.vm) (h : Kx G s) : Kx G U := by
  obtain ⟨h1, h2, h3, h4, h5, h6, h7⟩ := h
  exact ⟨va_K.moved hW.alike h1, va_AO.moved hW.alike h2, va_Nw.warmM hW h3, va_Nw.warmM hW h4, va_Nw.warmM hW h5, va_Nw.warmM hW h6, va_Nw.warmM hW h7⟩
theorem Kx.call {G : aG} {U : State} {g : JFrame} {mk : MethodId} {a : Array Value} (h : Kx G U) : Kx G (U.calling g mk a) := by
  obtain ⟨h1, h2, h3, h4, h5, h6, h7⟩ := h
  exact ⟨va_K.moved (u := U) (U := U.calling g mk a) (Vm.Alike.refl U.vm) h1, va_AO.moved (u := U) (U := U.calling g mk a) (Vm.Alike.refl U.vm) h2, va_Nw.same (u := U) (U := U.calling g mk a) rfl rfl h3, va_Nw.same (u := U) (U := U.calling g mk a) rfl rfl h4, va_Nw.same (u := U) (U := U.calling g mk a) rfl rfl h5, va_Nw.same (u := U) (U := U.calling g mk a) rfl rfl h6, va_Nw.same (u := U) (U := U.calling g mk a) rfl rfl h7⟩
/-- a method at its frame -/
def Fx (G : aG) (M : aM) (d : Nat) (p : Program) (R : Room) (s : State) (m : MethodId) (args : Array Value) (meth : Method) (c : Code) : Prop :=
  (p.tables.exec = Jvm.exec ∧ c.code = M.2.1 ∧ c.maxLocals = M.2.2.1 ∧ s.vm.findClass M.1.cls = some m.cls ∧ ∀ w ∈ tg, w.before args s = true) ∧ (meth.sig.returnType = M.2.2.2 ∧ meth.locks = false ∧ (M.1.name = "<init>" → meth.name = "<init>") ∧ Rh G.2.2.2.2.2.1) ∧ Kx G s ∧ G.1 ≤ s.heap.size ∧ d + 1 ≤ R.frames ∧ 40 * (d + 1) ≤ R.locals
def tl (G : aG) (lv : aL) : List (Nat × Value) := lv.map fun q => (q.1, tx G q.2)
/-- W at a state of the small machine -/
def Wc (G : aG) (nL : Nat) (p : Program) (l : Launch) (e : Env) (R : Room) (s : State) (m : MethodId) (args : Array Value) (below : List Frame) (meth : Method) (c : Code) (Q : State → Prop) (pc : Nat) (lv : aL) (st : List aV) (h : aH) (a b : Nat) : Prop :=
  ∀ (H : Heap) (locs : List Loc) (ls : Array Slot), Hp G h H → va_S (fun q : Nat => G.1 ≤ q) s.heap H locs → lv_has ls nL (tl G lv) → W p l e R s m args below meth c H locs a b Q (F0 m pc ls (st.map (tx G)))
def Qx (G : aG) (r : Option Value) (h : aH) : Array Value → State → Outcome → State → Prop := fun _ st oc t => oc = .returned (r.map (tv G.1)) ∧ Hp G h t.heap ∧ va_F (fun q : Nat => G.1 ≤ q) st t
def Pcx (G : aG) (as : List aV) (h : aH) : Array Value → State → Prop := va_Pc (as.map (tx G)) (fun U => Hp G h U.heap ∧ Kx G U)
theorem Pcx.blind {G : aG} {as : List aV} {h : aH} : FrameBlind (Pcx G as h) := fun a U g mk q => ⟨q.1, q.2.1, q.2.2.call⟩
/-- a method's contract, at one state: its frames are d at most -/
def MtE (l : Launch) (G : aG) (d : Nat) (E : aM × Nat × Nat) (as : List aV) (h : aH) (r : Option Value) (h' : aH) : Prop :=
  Met l E.1.1 (.code E.1.1 E.1.2.1 E.1.2.2.1 E.1.2.2.2 :: tg) { frames := d, cells := E.2.1, slots := E.2.2, locals := 40 * d } (Pcx G as h) (Qx G r h') E.2.1 E.2.2 (fun q => G.1 ≤ q)
