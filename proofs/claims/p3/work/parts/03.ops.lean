/-! THE STEPS of the small machine. What is computed is forced at once (frI, frL, frN, setF, fltF, appF), so that the kernel may run it. -/
theorem frI_x (x : Int32) : Int32.ofNat x.toBitVec.toNat = x := by
  apply Int32.toBitVec_inj.mp
  show BitVec.ofNat 32 x.toBitVec.toNat = x.toBitVec
  simp
theorem frL_x (x : Int64) : Int64.ofNat x.toBitVec.toNat = x := by
  apply Int64.toBitVec_inj.mp
  show BitVec.ofNat 64 x.toBitVec.toNat = x.toBitVec
  simp
def frN {β : Type} (n : Nat) (k : Nat → β) : β := match n with
  | 0 => k 0
  | m + 1 => k (m + 1)
theorem frN_eq {β : Type} (n : Nat) (k : Nat → β) : frN n k = k n := by cases n <;> rfl
def frI {β : Type} (x : Int32) (k : Int32 → β) : β := frN x.toBitVec.toNat (fun n => k (Int32.ofNat n))
theorem frI_eq {β : Type} (x : Int32) (k : Int32 → β) : frI x k = k x := by unfold frI; rw [frN_eq, frI_x]
def frL {β : Type} (x : Int64) (k : Int64 → β) : β := frN x.toBitVec.toNat (fun n => k (Int64.ofNat n))
theorem frL_eq {β : Type} (x : Int64) (k : Int64 → β) : frL x k = k x := by unfold frL; rw [frN_eq, frL_x]
def setF {α β : Type} : List α → Nat → α → (List α → β) → β
  | [], _, _, k => k []
  | _ :: t, 0, v, k => k (v :: t)
  | x :: t, j + 1, v, k => setF t j v (fun r => k (x :: r))
theorem setF_eq {α β : Type} : ∀ (l : List α) (j : Nat) (v : α) (k : List α → β), setF l j v k = k (l.set j v)
  | [], _, _, k => rfl
  | _ :: t, 0, v, k => rfl
  | x :: t, j + 1, v, k => by rw [setF, setF_eq]; rfl
def fltF {α β : Type} (p : α → Bool) : List α → (List α → β) → β
  | [], k => k []
  | x :: t, k => match p x with
    | true => fltF p t (fun r => k (x :: r))
    | false => fltF p t k
theorem fltF_eq {α β : Type} (p : α → Bool) : ∀ (l : List α) (k : List α → β), fltF p l k = k (l.filter p)
  | [], k => rfl
  | x :: t, k => by
    rw [fltF]
    cases hp : p x with
    | true => simp only [fltF_eq, List.filter_cons, hp, if_true]
    | false => simp only [fltF_eq, List.filter_cons, hp]; rfl
def appF {α β : Type} (e : α) : List α → Nat → (List α → Nat → β) → β
  | [], i, k => frN i (fun i => k [e] i)
  | x :: t, i, k => appF e t (i + 1) (fun r m => k (x :: r) m)
theorem appF_eq {α β : Type} (e : α) : ∀ (l : List α) (i : Nat) (k : List α → Nat → β), appF e l i k = k (l ++ [e]) (i + l.length)
  | [], i, k => by rw [appF, frN_eq]; rfl
  | x :: t, i, k => by rw [appF, appF_eq, show i + 1 + t.length = i + (x :: t).length by simp only [List.length_cons]; omega]; rfl
def popN : Nat → List aV → List aV → Option (List aV × List aV)
  | 0, st, acc => some (acc, st)
  | _ + 1, [], _ => none
  | n + 1, v :: t, acc => popN n t (v :: acc)
theorem popN_spec : ∀ (n : Nat) (st acc as r : List aV), popN n st acc = some (as, r) → acc.reverse ++ st = as.reverse ++ r ∧ as.length = n + acc.length
  | 0, st, acc, as, r, h => by cases h; exact ⟨rfl, by omega⟩
  | n + 1, [], acc, as, r, h => by cases h
  | n + 1, v :: t, acc, as, r, h => by
    have := popN_spec n t (v :: acc) as r h
    simp only [List.reverse_cons, List.append_assoc, List.singleton_append, List.length_cons] at this
    exact ⟨this.1, by omega⟩
def lk : aL → Nat → Option aV
  | [], _ => none
  | q :: t, i => match Nat.beq q.1 i with
    | true => some q.2
    | false => lk t i
theorem lk_spec : ∀ (lv : aL) (i : Nat) (v : aV), lk lv i = some v → (i, v) ∈ lv
  | [], i, v, h => by cases h
  | q :: t, i, v, h => by
    rw [lk] at h
    split at h
    · rename_i hq
      cases h
      rw [← Nat.eq_of_beq_eq_true hq]
      exact List.mem_cons_self
    · exact List.mem_cons_of_mem _ (lk_spec t i v h)
theorem lk_at {G : aG} {nL : Nat} {ls : Array Slot} {lv : aL} {i : Nat} {v : aV} (hl : lv_has ls nL (tl G lv)) (h : lk lv i = some v) : ls[i]? = some (.val (tx G v)) := hl.2.2 (i, tx G v) (List.mem_map.mpr ⟨(i, v), lk_spec lv i v h, rfl⟩)
def st1 (i : Nat) (q : Nat × aV) : Bool := !(q.1 == i) && !(q.1 + 1 == i && ac q.2 == 2)
def st2 (i : Nat) (q : Nat × aV) : Bool := !(q.1 == i) && (!(q.1 == i + 1) && !(q.1 + 1 == i && ac q.2 == 2))
theorem tl_st1 (G : aG) (i : Nat) (lv : aL) : (tl G lv).filter (fun q => !(q.1 == i) && !(q.1 + 1 == i && q.2.category == 2)) = tl G (lv.filter (st1 i)) := by
  unfold tl
  rw [List.filter_map]
  congr 1
  apply List.filter_congr
  intro q _
  simp only [Function.comp, st1, tx_cat]
theorem tl_st2 (G : aG) (i : Nat) (lv : aL) : (tl G lv).filter (fun q => !(q.1 == i) && (!(q.1 == i + 1) && !(q.1 + 1 == i && q.2.category == 2))) = tl G (lv.filter (st2 i)) := by
  unfold tl
  rw [List.filter_map]
  congr 1
  apply List.filter_congr
  intro q _
  simp only [Function.comp, st2, tx_cat]
/-- an answer on the stack -/
def rl (r : Option Value) : List aV := match r with
  | some v => [.inl v]
  | none => []
def nx (n : Nat) (lv : aL) (st : List aV) (h : aH) : Option aX := some (.inl (n, lv, st, h, 0, 0))
/-- what a step owes -/
def OkX (G : aG) (M : aM) (d : Nat) (p : Program) (l : Launch) (e : Env) (R : Room) (s : State) (m : MethodId) (args : Array Value) (below : List Frame) (meth : Method) (c : Code) (pc : Nat) (lv : aL) (st : List aV) (h : aH) (a b : Nat) : aX → Prop
  | .inl y => ∀ Q : State → Prop, a + y.2.2.2.2.1 ≤ R.cells → b + y.2.2.2.2.2 ≤ R.slots → Wc G M.2.2.1 p l e R s m args below meth c Q y.1 y.2.1 y.2.2.1 y.2.2.2.1 (a + y.2.2.2.2.1) (b + y.2.2.2.2.2) → Wc G M.2.2.1 p l e R s m args below meth c Q pc lv st h a b
  | .inr (.inl y) => ∀ (Q : State → Prop) (r : Option Value) (h' : aH), MtE l G d (MD y.1) y.2.1 h r h' → a + (MD y.1).2.1 ≤ R.cells → b + (MD y.1).2.2 ≤ R.slots → Wc G M.2.2.1 p l e R s m args below meth c Q (pc + 3) lv (rl r ++ y.2.2) h' (a + (MD y.1).2.1) (b + (MD y.1).2.2) → Wc G M.2.2.1 p l e R s m args below meth c Q pc lv st h a b
  | .inr (.inr r) => ∀ mc ms : Nat, a ≤ mc → b ≤ ms → Wc G M.2.2.1 p l e R s m args below meth c (MQ below (Qx G r h) args s mc ms (fun q => G.1 ≤ q)) pc lv st h a b
def Ok (M : aM) (pc : Nat) (op : aO) : Prop := ∀ (G : aG) (d : Nat) (p : Program) (l : Launch) (e : Env) (R : Room) (s : State) (m : MethodId) (args : Array Value) (below : List Frame) (meth : Method) (c : Code), Fx G M d p R s m args meth c → ∀ (lv : aL) (st : List aV) (h : aH) (x : aX), op lv st h = some x → ∀ a b : Nat, OkX G M d p l e R s m args below meth c pc lv st h a b x
-- steps on the stack alone
def oS (g : List aV → Option (List aV)) (n : Nat) : aO := fun lv st h => match g st with
  | some st' => nx n lv st' h
  | none => none
def RS (M : aM) (pc n : Nat) (g : List aV → Option (List aV)) : Prop := ∀ (p : Program) (l : Launch) (e : Env) (R : Room) (s : State) (m : MethodId) (args : Array Value) (below : List Frame) (meth : Method) (c : Code) (H : Heap) (locs : List Loc) (cells slots : Nat) (Q : State → Prop) (ls : Array Slot) (G : aG) (st st' : List aV), Rh G.2.2.2.2.2.1 → p.tables.exec = Jvm.exec → c.code = M.2.1 → g st = some st' → W p l e R s m args below meth c H locs cells slots Q (F0 m n ls (st'.map (tx G))) → W p l e R s m args below meth c H locs cells slots Q (F0 m pc ls (st.map (tx G)))
theorem ok_S {M : aM} {pc n : Nat} {g : List aV → Option (List aV)} (hg : RS M pc n g) : Ok M pc (oS g n) := by
  intro G d p l e R s m args below meth c hF lv st h x hx a b
  unfold oS at hx
  cases hs : g st with
  | none => rw [hs] at hx; cases hx
  | some st' =>
    rw [hs] at hx
    cases hx
    intro Q _ _ k H locs ls hP hS hl
    exact hg p l e R s m args below meth c H locs a b Q ls G st st' hF.2.1.2.2.2 hF.1.1 hF.1.2.1 hs (k H locs ls hP hS hl)
def gI2 (f : Int32 → Int32 → Int32) : List aV → Option (List aV)
  | .inl (.int y) :: .inl (.int x) :: r => frI (f x y) (fun z => some (.inl (.int z) :: r))
  | _ => none
def gL2 (f : Int64 → Int64 → Int64) : List aV → Option (List aV)
  | .inl (.long y) :: .inl (.long x) :: r => frL (f x y) (fun z => some (.inl (.long z) :: r))
  | _ => none
def gLS (f : Int64 → Int32 → Int64) : List aV → Option (List aV)
  | .inl (.int y) :: .inl (.long x) :: r => frL (f x y) (fun z => some (.inl (.long z) :: r))
  | _ => none
def gRm : List aV → Option (List aV)
  | .inl (.int y) :: .inl (.int x) :: r => match decide (y = 0) with
    | true => none
    | false => frI (x - x / y * y) (fun z => some (.inl (.int z) :: r))
  | _ => none
/-- how a variable stands to a number: some true: below it, some false: above it -/
def ord (i : Nat) (y : Int) : Option Bool := match i % 3 with
  | 0 => match decide (0 ≤ y) with
    | true => some true
    | false => none
  | 1 => match decide (y < ((i / 3 : Nat) : Int)), Nat.blt (i / 3) 1000 with
    | true, true => some false
    | _, _ => none
  | _ => none
def gCm : List aV → Option (List aV)
  | .inl (.long y) :: .inl (.long x) :: r => frI (lg_cmp x y) (fun z => some (.inl (.int z) :: r))
  | .inl (.long y) :: .inr (1, i) :: r => match ord i y.toInt with
    | some true => some (.inl (.int (-1)) :: r)
    | some false => some (.inl (.int 1) :: r)
    | none => none
  | _ => none
theorem ord_lt {ρ : Nat → Int32} (h : Rh ρ) {i : Nat} {y : Int} (hi : ord i y = some true) : (ρ i).toInt < y := by
  unfold ord at hi
  split at hi
  · rename_i h3
    split at hi
    · rename_i hy
      have hy := of_decide_eq_true hy
      have := h.1 (i / 3)
      rw [show 3 * (i / 3) = i by omega] at this
      have := Int32.lt_iff_toInt_lt.mp this
      simp at this
      omega
    · cases hi
  · split at hi <;> cases hi
  · cases hi
theorem ord_gt {ρ : Nat → Int32} (h : Rh ρ) {i : Nat} {y : Int} (hi : ord i y = some false) : y < (ρ i).toInt := by
  unfold ord at hi
  split at hi
  · split at hi <;> cases hi
  · rename_i h3
    split at hi
    · rename_i hy hb
      have hy := of_decide_eq_true hy
      have hb := Nat.le_of_ble_eq_true hb
      have := h.2 (i / 3) hb
      rw [show 3 * (i / 3) + 1 = i by omega] at this
      have := Int32.le_iff_toInt_le.mp this
      rw [nI_toInt (by omega)] at this
      omega
    · cases hi
  · cases hi
def gIL : List aV → Option (List aV)
  | .inl (.int x) :: r => frL x.toInt64 (fun z => some (.inl (.long z) :: r))
  | .inr (0, i) :: r => some (.inr (1, i) :: r)
  | _ => none
def gLI : List aV → Option (List aV)
  | .inl (.long x) :: r => frI x.toInt32 (fun z => some (.inl (.int z) :: r))
  | _ => none
def gDu : List aV → Option (List aV)
  | .inl (.int x) :: r => some (.inl (.int x) :: .inl (.int x) :: r)
  | .inl (.ref x) :: r => some (.inl (.ref x) :: .inl (.ref x) :: r)
  | _ => none
def gD2 : List aV → Option (List aV)
  | .inl (.int x) :: .inl (.ref y) :: r => some (.inl (.int x) :: .inl (.ref y) :: .inl (.int x) :: .inl (.ref y) :: r)
  | .inl (.int x) :: .inl (.int y) :: r => some (.inl (.int x) :: .inl (.int y) :: .inl (.int x) :: .inl (.int y) :: r)
  | _ => none
def gKo (v : Value) (st : List aV) : Option (List aV) := some (.inl v :: st)
theorem lg_cmp_lt' {x : Int32} {y : Int64} (h : x.toInt < y.toInt) : lg_cmp x.toInt64 y = -1 := by
  have e : x.toInt64.toInt = x.toInt := Int32.toInt_toInt64 x
  unfold lg_cmp
  rw [if_neg (fun q : x.toInt64 > y => by have := Int64.lt_iff_toInt_lt.mp q; omega), if_neg (fun q => by rw [q] at e; omega)]
theorem lg_cmp_gt' {x : Int32} {y : Int64} (h : y.toInt < x.toInt) : lg_cmp x.toInt64 y = 1 := by
  have e : x.toInt64.toInt = x.toInt := Int32.toInt_toInt64 x
  unfold lg_cmp
  rw [if_pos (show x.toInt64 > y from Int64.lt_iff_toInt_lt.mpr (by omega))]
def f_iadd (x y : Int32) : Int32 := x + y
theorem r_iadd {M : aM} {pc : Nat} (hd : decode M.2.1 pc = .ok (.iadd, 1)) : Ok M pc (oS (gI2 f_iadd) (pc + 1)) := ok_S (by
  intro p l e R s m args below meth c H locs cells slots Q ls G st st' hρ hx hb hg k
  unfold gI2 at hg
  split at hg
  · rw [frI_eq] at hg
    cases hg
    exact lv_iadd hx hb hd k
  · cases hg)
def f_isub (x y : Int32) : Int32 := x - y
theorem r_isub {M : aM} {pc : Nat} (hd : decode M.2.1 pc = .ok (.isub, 1)) : Ok M pc (oS (gI2 f_isub) (pc + 1)) := ok_S (by
  intro p l e R s m args below meth c H locs cells slots Q ls G st st' hρ hx hb hg k
  unfold gI2 at hg
  split at hg
  · rw [frI_eq] at hg
    cases hg
    exact lv_isub hx hb hd k
  · cases hg)
def f_imul (x y : Int32) : Int32 := x * y
theorem r_imul {M : aM} {pc : Nat} (hd : decode M.2.1 pc = .ok (.imul, 1)) : Ok M pc (oS (gI2 f_imul) (pc + 1)) := ok_S (by
  intro p l e R s m args below meth c H locs cells slots Q ls G st st' hρ hx hb hg k
  unfold gI2 at hg
  split at hg
  · rw [frI_eq] at hg
    cases hg
    exact lv_imul hx hb hd k
  · cases hg)
def f_iand (x y : Int32) : Int32 := x &&& y
theorem r_iand {M : aM} {pc : Nat} (hd : decode M.2.1 pc = .ok (.iand, 1)) : Ok M pc (oS (gI2 f_iand) (pc + 1)) := ok_S (by
  intro p l e R s m args below meth c H locs cells slots Q ls G st st' hρ hx hb hg k
  unfold gI2 at hg
  split at hg
  · rw [frI_eq] at hg
    cases hg
    exact lv_iand hx hb hd k
  · cases hg)
def f_ior (x y : Int32) : Int32 := x ||| y
theorem r_ior {M : aM} {pc : Nat} (hd : decode M.2.1 pc = .ok (.ior, 1)) : Ok M pc (oS (gI2 f_ior) (pc + 1)) := ok_S (by
  intro p l e R s m args below meth c H locs cells slots Q ls G st st' hρ hx hb hg k
  unfold gI2 at hg
  split at hg
  · rw [frI_eq] at hg
    cases hg
    exact lv_ior hx hb hd k
  · cases hg)
def f_ixor (x y : Int32) : Int32 := x ^^^ y
theorem r_ixor {M : aM} {pc : Nat} (hd : decode M.2.1 pc = .ok (.ixor, 1)) : Ok M pc (oS (gI2 f_ixor) (pc + 1)) := ok_S (by
  intro p l e R s m args below meth c H locs cells slots Q ls G st st' hρ hx hb hg k
  unfold gI2 at hg
  split at hg
  · rw [frI_eq] at hg
    cases hg
    exact lv_ixor hx hb hd k
  · cases hg)
def f_ishl (x y : Int32) : Int32 := x <<< (y &&& 31)
theorem r_ishl {M : aM} {pc : Nat} (hd : decode M.2.1 pc = .ok (.ishl, 1)) : Ok M pc (oS (gI2 f_ishl) (pc + 1)) := ok_S (by
  intro p l e R s m args below meth c H locs cells slots Q ls G st st' hρ hx hb hg k
  unfold gI2 at hg
  split at hg
  · rw [frI_eq] at hg
    cases hg
    exact lv_ishl hx hb hd k
  · cases hg)
def f_ishr (x y : Int32) : Int32 := x >>> (y &&& 31)
theorem r_ishr {M : aM} {pc : Nat} (hd : decode M.2.1 pc = .ok (.ishr, 1)) : Ok M pc (oS (gI2 f_ishr) (pc + 1)) := ok_S (by
  intro p l e R s m args below meth c H locs cells slots Q ls G st st' hρ hx hb hg k
  unfold gI2 at hg
  split at hg
  · rw [frI_eq] at hg
    cases hg
    exact lv_ishr hx hb hd k
  · cases hg)
def f_iushr (x y : Int32) : Int32 := (x.toUInt32 >>> (y.toUInt32 &&& Int32.toUInt32 31)).toInt32
theorem r_iushr {M : aM} {pc : Nat} (hd : decode M.2.1 pc = .ok (.iushr, 1)) : Ok M pc (oS (gI2 f_iushr) (pc + 1)) := ok_S (by
  intro p l e R s m args below meth c H locs cells slots Q ls G st st' hρ hx hb hg k
  unfold gI2 at hg
  split at hg
  · rw [frI_eq] at hg
    cases hg
    exact lv_iushr hx hb hd rfl k
  · cases hg)
def f_ladd (x y : Int64) : Int64 := x + y
theorem r_ladd {M : aM} {pc : Nat} (hd : decode M.2.1 pc = .ok (.ladd, 1)) : Ok M pc (oS (gL2 f_ladd) (pc + 1)) := ok_S (by
  intro p l e R s m args below meth c H locs cells slots Q ls G st st' hρ hx hb hg k
  unfold gL2 at hg
  split at hg
  · rw [frL_eq] at hg
    cases hg
    exact lv_ladd hx hb hd k
  · cases hg)
def f_lmul (x y : Int64) : Int64 := x * y
theorem r_lmul {M : aM} {pc : Nat} (hd : decode M.2.1 pc = .ok (.lmul, 1)) : Ok M pc (oS (gL2 f_lmul) (pc + 1)) := ok_S (by
  intro p l e R s m args below meth c H locs cells slots Q ls G st st' hρ hx hb hg k
  unfold gL2 at hg
  split at hg
  · rw [frL_eq] at hg
    cases hg
    exact lv_lmul hx hb hd k
  · cases hg)
def f_land (x y : Int64) : Int64 := x &&& y
theorem r_land {M : aM} {pc : Nat} (hd : decode M.2.1 pc = .ok (.land, 1)) : Ok M pc (oS (gL2 f_land) (pc + 1)) := ok_S (by
  intro p l e R s m args below meth c H locs cells slots Q ls G st st' hρ hx hb hg k
  unfold gL2 at hg
  split at hg
  · rw [frL_eq] at hg
    cases hg
    exact lv_land hx hb hd k
  · cases hg)
def f_lor (x y : Int64) : Int64 := x ||| y
theorem r_lor {M : aM} {pc : Nat} (hd : decode M.2.1 pc = .ok (.lor, 1)) : Ok M pc (oS (gL2 f_lor) (pc + 1)) := ok_S (by
  intro p l e R s m args below meth c H locs cells slots Q ls G st st' hρ hx hb hg k
  unfold gL2 at hg
  split at hg
  · rw [frL_eq] at hg
    cases hg
    exact lv_lor hx hb hd k
  · cases hg)
def f_lshl (x : Int64) (y : Int32) : Int64 := x <<< (y.toInt64 &&& 63)
theorem r_lshl {M : aM} {pc : Nat} (hd : decode M.2.1 pc = .ok (.lshl, 1)) : Ok M pc (oS (gLS f_lshl) (pc + 1)) := ok_S (by
  intro p l e R s m args below meth c H locs cells slots Q ls G st st' hρ hx hb hg k
  unfold gLS at hg
  split at hg
  · rw [frL_eq] at hg
    cases hg
    exact lv_lshl hx hb hd rfl k
  · cases hg)
def f_lshr (x : Int64) (y : Int32) : Int64 := x >>> (y.toInt64 &&& 63)
theorem r_lshr {M : aM} {pc : Nat} (hd : decode M.2.1 pc = .ok (.lshr, 1)) : Ok M pc (oS (gLS f_lshr) (pc + 1)) := ok_S (by
  intro p l e R s m args below meth c H locs cells slots Q ls G st st' hρ hx hb hg k
  unfold gLS at hg
  split at hg
  · rw [frL_eq] at hg
    cases hg
    exact lv_lshr hx hb hd rfl k
  · cases hg)
theorem r_irem {M : aM} {pc : Nat} (hd : decode M.2.1 pc = .ok (.irem, 1)) : Ok M pc (oS gRm (pc + 1)) := ok_S (by
  intro p l e R s m args below meth c H locs cells slots Q ls G st st' hρ hx hb hg k
  unfold gRm at hg
  split at hg
  · split at hg
    · cases hg
    · rename_i hz
      rw [frI_eq] at hg
      cases hg
      exact lv_irem hx hb hd (of_decide_eq_false hz) k
  · cases hg)
theorem r_lcmp {M : aM} {pc : Nat} (hd : decode M.2.1 pc = .ok (.lcmp, 1)) : Ok M pc (oS gCm (pc + 1)) := ok_S (by
  intro p l e R s m args below meth c H locs cells slots Q ls G st st' hρ hx hb hg k
  unfold gCm at hg
  split at hg
  · rw [frI_eq] at hg
    cases hg
    exact W.lcmp hx hb hd k
  · split at hg
    · rename_i ho
      cases hg
      have := ord_lt hρ ho
      refine W.lcmp hx hb hd ?_
      rw [lg_cmp_lt' this]
      exact k
    · rename_i ho
      cases hg
      have := ord_gt hρ ho
      refine W.lcmp hx hb hd ?_
      rw [lg_cmp_gt' this]
      exact k
    · cases hg
  · cases hg)
theorem r_i2l {M : aM} {pc : Nat} (hd : decode M.2.1 pc = .ok (.i2l, 1)) : Ok M pc (oS gIL (pc + 1)) := ok_S (by
  intro p l e R s m args below meth c H locs cells slots Q ls G st st' hρ hx hb hg k
  unfold gIL at hg
  split at hg
  · rw [frL_eq] at hg
    cases hg
    exact lv_i2l hx hb hd rfl k
  · cases hg
    exact lv_i2l hx hb hd rfl k
  · cases hg)
theorem r_l2i {M : aM} {pc : Nat} (hd : decode M.2.1 pc = .ok (.l2i, 1)) : Ok M pc (oS gLI (pc + 1)) := ok_S (by
  intro p l e R s m args below meth c H locs cells slots Q ls G st st' hρ hx hb hg k
  unfold gLI at hg
  split at hg
  · rw [frI_eq] at hg
    cases hg
    exact lv_l2i hx hb hd rfl k
  · cases hg)
theorem r_dup {M : aM} {pc : Nat} (hd : decode M.2.1 pc = .ok (.dup, 1)) : Ok M pc (oS gDu (pc + 1)) := ok_S (by
  intro p l e R s m args below meth c H locs cells slots Q ls G st st' hρ hx hb hg k
  unfold gDu at hg
  split at hg
  · cases hg
    exact lv_dup hx hb hd rfl k
  · cases hg
    exact lv_dup hx hb hd rfl k
  · cases hg)
theorem r_dup2 {M : aM} {pc : Nat} (hd : decode M.2.1 pc = .ok (.dup2, 1)) : Ok M pc (oS gD2 (pc + 1)) := ok_S (by
  intro p l e R s m args below meth c H locs cells slots Q ls G st st' hρ hx hb hg k
  unfold gD2 at hg
  split at hg
  · cases hg
    exact lv_dup2_11 hx hb hd rfl rfl k
  · cases hg
    exact lv_dup2_11 hx hb hd rfl rfl k
  · cases hg)
theorem r_iconst {M : aM} {pc : Nat} {n : Int} {v : Int32} (hd : decode M.2.1 pc = .ok (.iconst n, 1)) (hv : Int32.ofInt n = v) : Ok M pc (oS (gKo (.int v)) (pc + 1)) := ok_S (by
  intro p l e R s m args below meth c H locs cells slots Q ls G st st' hρ hx hb hg k
  cases hg
  exact lv_iconst hx hb hd hv k)
theorem r_bipush {M : aM} {pc : Nat} {n : Int} {v : Int32} (hd : decode M.2.1 pc = .ok (.bipush n, 2)) (hv : (Int8.ofInt n).toInt32 = v) : Ok M pc (oS (gKo (.int v)) (pc + 2)) := ok_S (by
  intro p l e R s m args below meth c H locs cells slots Q ls G st st' hρ hx hb hg k
  cases hg
  exact lv_bipush hx hb hd hv k)
theorem r_sipush {M : aM} {pc : Nat} {n : Int} {v : Int32} (hd : decode M.2.1 pc = .ok (.sipush n, 3)) (hv : (Int16.ofInt n).toInt32 = v) : Ok M pc (oS (gKo (.int v)) (pc + 3)) := ok_S (by
  intro p l e R s m args below meth c H locs cells slots Q ls G st st' hρ hx hb hg k
  cases hg
  exact lv_sipush hx hb hd hv k)
theorem r_lconst {M : aM} {pc : Nat} {n : Fin 2} {v : Int64} (hd : decode M.2.1 pc = .ok (.lconst n, 1)) (hv : Int64.ofNat (n : Nat) = v) : Ok M pc (oS (gKo (.long v)) (pc + 1)) := ok_S (by
  intro p l e R s m args below meth c H locs cells slots Q ls G st st' hρ hx hb hg k
  cases hg
  exact lv_lconst hx hb hd hv k)
def oB1 (f : Int32 → Bool) (q : Bool → Bool) (t n : Nat) : aO := fun lv st h => match st with
  | .inl (.int x) :: r => match f x with
    | true => nx t lv r h
    | false => nx n lv r h
  | .inr (0, i) :: r => match (ord i 0).map q with
    | some true => nx t lv r h
    | some false => nx n lv r h
    | none => none
  | _ => none
def oB2 (f : Int32 → Int32 → Bool) (q : Bool → Bool) (t n : Nat) : aO := fun lv st h => match st with
  | .inl (.int y) :: .inl (.int x) :: r => match f x y with
    | true => nx t lv r h
    | false => nx n lv r h
  | .inl (.int y) :: .inr (0, i) :: r => match (ord i y.toInt).map q with
    | some true => nx t lv r h
    | some false => nx n lv r h
    | none => none
  | _ => none
def b_if_eq (x : Int32) : Bool := decide (x = 0)
def q_eq : Bool → Bool
  | true => false
  | false => false
theorem s_if_eq {ρ : Nat → Int32} (h : Rh ρ) {i : Nat} {v : Bool} (hi : (ord i 0).map q_eq = some v) : b_if_eq (ρ i) = v := by
  cases ho : ord i 0 with
  | none => rw [ho] at hi; cases hi
  | some u =>
    rw [ho] at hi
    cases u with
    | true =>
      have h1 := ord_lt h ho
      cases hi
      unfold b_if_eq; exact decide_eq_false (by have z0 : (0 : Int32).toInt = 0 := rfl; rw [← Int32.toInt_inj]; omega)
    | false =>
      have h1 := ord_gt h ho
      cases hi
      unfold b_if_eq; exact decide_eq_false (by have z0 : (0 : Int32).toInt = 0 := rfl; rw [← Int32.toInt_inj]; omega)
theorem r_if_eq {M : aM} {pc t : Nat} {off : Int} (hd : decode M.2.1 pc = .ok (.ifCond .eq off, 3)) (ht : (pc : Int) + off = (t : Int)) : Ok M pc (oB1 b_if_eq q_eq t (pc + 3)) := by
  intro G d p l e R s m args below meth c hF lv st h x hx a b
  unfold oB1 at hx
  split at hx
  · split at hx
    · rename_i hf
      cases hx
      intro Q _ _ k H locs ls hP hS hl
      exact lv_if_eq hF.1.1 hF.1.2.1 hd ht (fun _ => k H locs ls hP hS hl) (fun hc => absurd (of_decide_eq_true hf) hc)
    · rename_i hf
      cases hx
      intro Q _ _ k H locs ls hP hS hl
      exact lv_if_eq hF.1.1 hF.1.2.1 hd ht (fun hc => absurd hc (of_decide_eq_false hf)) (fun _ => k H locs ls hP hS hl)
  · split at hx
    · rename_i hf
      have hf := s_if_eq hF.2.1.2.2.2 hf
      cases hx
      intro Q _ _ k H locs ls hP hS hl
      exact lv_if_eq hF.1.1 hF.1.2.1 hd ht (fun _ => k H locs ls hP hS hl) (fun hc => absurd (of_decide_eq_true hf) hc)
    · rename_i hf
      have hf := s_if_eq hF.2.1.2.2.2 hf
      cases hx
      intro Q _ _ k H locs ls hP hS hl
      exact lv_if_eq hF.1.1 hF.1.2.1 hd ht (fun hc => absurd hc (of_decide_eq_false hf)) (fun _ => k H locs ls hP hS hl)
    · cases hx
  · cases hx
def b_icmp_eq (x y : Int32) : Bool := decide (x = y)
theorem s_icmp_eq {ρ : Nat → Int32} (h : Rh ρ) {i : Nat} {y : Int32} {v : Bool} (hi : (ord i y.toInt).map q_eq = some v) : b_icmp_eq (ρ i) y = v := by
  cases ho : ord i y.toInt with
  | none => rw [ho] at hi; cases hi
  | some u =>
    rw [ho] at hi
    cases u with
    | true =>
      have h1 := ord_lt h ho
      cases hi
      unfold b_icmp_eq; exact decide_eq_false (by rw [← Int32.toInt_inj]; omega)
    | false =>
      have h1 := ord_gt h ho
      cases hi
      unfold b_icmp_eq; exact decide_eq_false (by rw [← Int32.toInt_inj]; omega)
theorem r_icmp_eq {M : aM} {pc t : Nat} {off : Int} (hd : decode M.2.1 pc = .ok (.if_icmp .eq off, 3)) (ht : (pc : Int) + off = (t : Int)) : Ok M pc (oB2 b_icmp_eq q_eq t (pc + 3)) := by
  intro G d p l e R s m args below meth c hF lv st h x hx a b
  unfold oB2 at hx
  split at hx
  · split at hx
    · rename_i hf
      cases hx
      intro Q _ _ k H locs ls hP hS hl
      exact lv_icmp_eq hF.1.1 hF.1.2.1 hd ht (fun _ => k H locs ls hP hS hl) (fun hc => absurd (of_decide_eq_true hf) hc)
    · rename_i hf
      cases hx
      intro Q _ _ k H locs ls hP hS hl
      exact lv_icmp_eq hF.1.1 hF.1.2.1 hd ht (fun hc => absurd hc (of_decide_eq_false hf)) (fun _ => k H locs ls hP hS hl)
  · split at hx
    · rename_i hf
      have hf := s_icmp_eq hF.2.1.2.2.2 hf
      cases hx
      intro Q _ _ k H locs ls hP hS hl
      exact lv_icmp_eq hF.1.1 hF.1.2.1 hd ht (fun _ => k H locs ls hP hS hl) (fun hc => absurd (of_decide_eq_true hf) hc)
    · rename_i hf
      have hf := s_icmp_eq hF.2.1.2.2.2 hf
      cases hx
      intro Q _ _ k H locs ls hP hS hl
      exact lv_icmp_eq hF.1.1 hF.1.2.1 hd ht (fun hc => absurd hc (of_decide_eq_false hf)) (fun _ => k H locs ls hP hS hl)
    · cases hx
  · cases hx
def b_if_ne (x : Int32) : Bool := decide (¬ x = 0)
def q_ne : Bool → Bool
  | true => true
  | false => true
theorem s_if_ne {ρ : Nat → Int32} (h : Rh ρ) {i : Nat} {v : Bool} (hi : (ord i 0).map q_ne = some v) : b_if_ne (ρ i) = v := by
  cases ho : ord i 0 with
  | none => rw [ho] at hi; cases hi
  | some u =>
    rw [ho] at hi
    cases u with
    | true =>
      have h1 := ord_lt h ho
      cases hi
      unfold b_if_ne; exact decide_eq_true (by have z0 : (0 : Int32).toInt = 0 := rfl; rw [← Int32.toInt_inj]; omega)
    | false =>
      have h1 := ord_gt h ho
      cases hi
      unfold b_if_ne; exact decide_eq_true (by have z0 : (0 : Int32).toInt = 0 := rfl; rw [← Int32.toInt_inj]; omega)
theorem r_if_ne {M : aM} {pc t : Nat} {off : Int} (hd : decode M.2.1 pc = .ok (.ifCond .ne off, 3)) (ht : (pc : Int) + off = (t : Int)) : Ok M pc (oB1 b_if_ne q_ne t (pc + 3)) := by
  intro G d p l e R s m args below meth c hF lv st h x hx a b
  unfold oB1 at hx
  split at hx
  · split at hx
    · rename_i hf
      cases hx
      intro Q _ _ k H locs ls hP hS hl
      exact lv_if_ne hF.1.1 hF.1.2.1 hd ht (fun _ => k H locs ls hP hS hl) (fun hc => absurd hc (of_decide_eq_true hf))
    · rename_i hf
      cases hx
      intro Q _ _ k H locs ls hP hS hl
      exact lv_if_ne hF.1.1 hF.1.2.1 hd ht (fun hc => absurd hc (of_decide_eq_false hf)) (fun _ => k H locs ls hP hS hl)
  · split at hx
    · rename_i hf
      have hf := s_if_ne hF.2.1.2.2.2 hf
      cases hx
      intro Q _ _ k H locs ls hP hS hl
      exact lv_if_ne hF.1.1 hF.1.2.1 hd ht (fun _ => k H locs ls hP hS hl) (fun hc => absurd hc (of_decide_eq_true hf))
    · rename_i hf
      have hf := s_if_ne hF.2.1.2.2.2 hf
      cases hx
      intro Q _ _ k H locs ls hP hS hl
      exact lv_if_ne hF.1.1 hF.1.2.1 hd ht (fun hc => absurd hc (of_decide_eq_false hf)) (fun _ => k H locs ls hP hS hl)
    · cases hx
  · cases hx
def b_icmp_ne (x y : Int32) : Bool := decide (¬ x = y)
theorem s_icmp_ne {ρ : Nat → Int32} (h : Rh ρ) {i : Nat} {y : Int32} {v : Bool} (hi : (ord i y.toInt).map q_ne = some v) : b_icmp_ne (ρ i) y = v := by
  cases ho : ord i y.toInt with
  | none => rw [ho] at hi; cases hi
  | some u =>
    rw [ho] at hi
    cases u with
    | true =>
      have h1 := ord_lt h ho
      cases hi
      unfold b_icmp_ne; exact decide_eq_true (by rw [← Int32.toInt_inj]; omega)
    | false =>
      have h1 := ord_gt h ho
      cases hi
      unfold b_icmp_ne; exact decide_eq_true (by rw [← Int32.toInt_inj]; omega)
theorem r_icmp_ne {M : aM} {pc t : Nat} {off : Int} (hd : decode M.2.1 pc = .ok (.if_icmp .ne off, 3)) (ht : (pc : Int) + off = (t : Int)) : Ok M pc (oB2 b_icmp_ne q_ne t (pc + 3)) := by
  intro G d p l e R s m args below meth c hF lv st h x hx a b
  unfold oB2 at hx
  split at hx
  · split at hx
    · rename_i hf
      cases hx
      intro Q _ _ k H locs ls hP hS hl
      exact lv_icmp_ne hF.1.1 hF.1.2.1 hd ht (fun _ => k H locs ls hP hS hl) (fun hc => absurd hc (of_decide_eq_true hf))
    · rename_i hf
      cases hx
      intro Q _ _ k H locs ls hP hS hl
      exact lv_icmp_ne hF.1.1 hF.1.2.1 hd ht (fun hc => absurd hc (of_decide_eq_false hf)) (fun _ => k H locs ls hP hS hl)
  · split at hx
    · rename_i hf
      have hf := s_icmp_ne hF.2.1.2.2.2 hf
      cases hx
      intro Q _ _ k H locs ls hP hS hl
      exact lv_icmp_ne hF.1.1 hF.1.2.1 hd ht (fun _ => k H locs ls hP hS hl) (fun hc => absurd hc (of_decide_eq_true hf))
    · rename_i hf
      have hf := s_icmp_ne hF.2.1.2.2.2 hf
      cases hx
      intro Q _ _ k H locs ls hP hS hl
      exact lv_icmp_ne hF.1.1 hF.1.2.1 hd ht (fun hc => absurd hc (of_decide_eq_false hf)) (fun _ => k H locs ls hP hS hl)
    · cases hx
  · cases hx
def b_if_lt (x : Int32) : Bool := decide (x < 0)
def q_lt : Bool → Bool
  | true => true
  | false => false
theorem s_if_lt {ρ : Nat → Int32} (h : Rh ρ) {i : Nat} {v : Bool} (hi : (ord i 0).map q_lt = some v) : b_if_lt (ρ i) = v := by
  cases ho : ord i 0 with
  | none => rw [ho] at hi; cases hi
  | some u =>
    rw [ho] at hi
    cases u with
    | true =>
      have h1 := ord_lt h ho
      cases hi
      unfold b_if_lt; exact decide_eq_true (by have z0 : (0 : Int32).toInt = 0 := rfl; rw [Int32.lt_iff_toInt_lt]; omega)
    | false =>
      have h1 := ord_gt h ho
      cases hi
      unfold b_if_lt; exact decide_eq_false (by have z0 : (0 : Int32).toInt = 0 := rfl; rw [Int32.lt_iff_toInt_lt]; omega)
theorem r_if_lt {M : aM} {pc t : Nat} {off : Int} (hd : decode M.2.1 pc = .ok (.ifCond .lt off, 3)) (ht : (pc : Int) + off = (t : Int)) : Ok M pc (oB1 b_if_lt q_lt t (pc + 3)) := by
  intro G d p l e R s m args below meth c hF lv st h x hx a b
  unfold oB1 at hx
  split at hx
  · split at hx
    · rename_i hf
      cases hx
      intro Q _ _ k H locs ls hP hS hl
      exact lv_if_lt hF.1.1 hF.1.2.1 hd ht (fun _ => k H locs ls hP hS hl) (fun hc => absurd (of_decide_eq_true hf) hc)
    · rename_i hf
      cases hx
      intro Q _ _ k H locs ls hP hS hl
      exact lv_if_lt hF.1.1 hF.1.2.1 hd ht (fun hc => absurd hc (of_decide_eq_false hf)) (fun _ => k H locs ls hP hS hl)
  · split at hx
    · rename_i hf
      have hf := s_if_lt hF.2.1.2.2.2 hf
      cases hx
      intro Q _ _ k H locs ls hP hS hl
      exact lv_if_lt hF.1.1 hF.1.2.1 hd ht (fun _ => k H locs ls hP hS hl) (fun hc => absurd (of_decide_eq_true hf) hc)
    · rename_i hf
      have hf := s_if_lt hF.2.1.2.2.2 hf
      cases hx
      intro Q _ _ k H locs ls hP hS hl
      exact lv_if_lt hF.1.1 hF.1.2.1 hd ht (fun hc => absurd hc (of_decide_eq_false hf)) (fun _ => k H locs ls hP hS hl)
    · cases hx
  · cases hx
def b_icmp_lt (x y : Int32) : Bool := decide (x < y)
theorem s_icmp_lt {ρ : Nat → Int32} (h : Rh ρ) {i : Nat} {y : Int32} {v : Bool} (hi : (ord i y.toInt).map q_lt = some v) : b_icmp_lt (ρ i) y = v := by
  cases ho : ord i y.toInt with
  | none => rw [ho] at hi; cases hi
  | some u =>
    rw [ho] at hi
    cases u with
    | true =>
      have h1 := ord_lt h ho
      cases hi
      unfold b_icmp_lt; exact decide_eq_true (by rw [Int32.lt_iff_toInt_lt]; omega)
    | false =>
      have h1 := ord_gt h ho
      cases hi
      unfold b_icmp_lt; exact decide_eq_false (by rw [Int32.lt_iff_toInt_lt]; omega)
theorem r_icmp_lt {M : aM} {pc t : Nat} {off : Int} (hd : decode M.2.1 pc = .ok (.if_icmp .lt off, 3)) (ht : (pc : Int) + off = (t : Int)) : Ok M pc (oB2 b_icmp_lt q_lt t (pc + 3)) := by
  intro G d p l e R s m args below meth c hF lv st h x hx a b
  unfold oB2 at hx
  split at hx
  · split at hx
    · rename_i hf
      cases hx
      intro Q _ _ k H locs ls hP hS hl
      exact lv_icmp_lt hF.1.1 hF.1.2.1 hd ht (fun _ => k H locs ls hP hS hl) (fun hc => absurd (of_decide_eq_true hf) hc)
    · rename_i hf
      cases hx
      intro Q _ _ k H locs ls hP hS hl
      exact lv_icmp_lt hF.1.1 hF.1.2.1 hd ht (fun hc => absurd hc (of_decide_eq_false hf)) (fun _ => k H locs ls hP hS hl)
  · split at hx
    · rename_i hf
      have hf := s_icmp_lt hF.2.1.2.2.2 hf
      cases hx
      intro Q _ _ k H locs ls hP hS hl
      exact lv_icmp_lt hF.1.1 hF.1.2.1 hd ht (fun _ => k H locs ls hP hS hl) (fun hc => absurd (of_decide_eq_true hf) hc)
    · rename_i hf
      have hf := s_icmp_lt hF.2.1.2.2.2 hf
      cases hx
      intro Q _ _ k H locs ls hP hS hl
      exact lv_icmp_lt hF.1.1 hF.1.2.1 hd ht (fun hc => absurd hc (of_decide_eq_false hf)) (fun _ => k H locs ls hP hS hl)
    · cases hx
  · cases hx
def b_if_ge (x : Int32) : Bool := decide (0 ≤ x)
def q_ge : Bool → Bool
  | true => false
  | false => true
theorem s_if_ge {ρ : Nat → Int32} (h : Rh ρ) {i : Nat} {v : Bool} (hi : (ord i 0).map q_ge = some v) : b_if_ge (ρ i) = v := by
  cases ho : ord i 0 with
  | none => rw [ho] at hi; cases hi
  | some u =>
    rw [ho] at hi
    cases u with
    | true =>
      have h1 := ord_lt h ho
      cases hi
      unfold b_if_ge; exact decide_eq_false (by have z0 : (0 : Int32).toInt = 0 := rfl; rw [Int32.le_iff_toInt_le]; omega)
    | false =>
      have h1 := ord_gt h ho
      cases hi
      unfold b_if_ge; exact decide_eq_true (by have z0 : (0 : Int32).toInt = 0 := rfl; rw [Int32.le_iff_toInt_le]; omega)
theorem r_if_ge {M : aM} {pc t : Nat} {off : Int} (hd : decode M.2.1 pc = .ok (.ifCond .ge off, 3)) (ht : (pc : Int) + off = (t : Int)) : Ok M pc (oB1 b_if_ge q_ge t (pc + 3)) := by
  intro G d p l e R s m args below meth c hF lv st h x hx a b
  unfold oB1 at hx
  split at hx
  · split at hx
    · rename_i hf
      cases hx
      intro Q _ _ k H locs ls hP hS hl
      exact lv_if_ge hF.1.1 hF.1.2.1 hd ht (fun _ => k H locs ls hP hS hl) (fun hc => absurd (of_decide_eq_true hf) hc)
    · rename_i hf
      cases hx
      intro Q _ _ k H locs ls hP hS hl
      exact lv_if_ge hF.1.1 hF.1.2.1 hd ht (fun hc => absurd hc (of_decide_eq_false hf)) (fun _ => k H locs ls hP hS hl)
  · split at hx
    · rename_i hf
      have hf := s_if_ge hF.2.1.2.2.2 hf
      cases hx
      intro Q _ _ k H locs ls hP hS hl
      exact lv_if_ge hF.1.1 hF.1.2.1 hd ht (fun _ => k H locs ls hP hS hl) (fun hc => absurd (of_decide_eq_true hf) hc)
    · rename_i hf
      have hf := s_if_ge hF.2.1.2.2.2 hf
      cases hx
      intro Q _ _ k H locs ls hP hS hl
      exact lv_if_ge hF.1.1 hF.1.2.1 hd ht (fun hc => absurd hc (of_decide_eq_false hf)) (fun _ => k H locs ls hP hS hl)
    · cases hx
  · cases hx
def b_icmp_ge (x y : Int32) : Bool := decide (y ≤ x)
theorem s_icmp_ge {ρ : Nat → Int32} (h : Rh ρ) {i : Nat} {y : Int32} {v : Bool} (hi : (ord i y.toInt).map q_ge = some v) : b_icmp_ge (ρ i) y = v := by
  cases ho : ord i y.toInt with
  | none => rw [ho] at hi; cases hi
  | some u =>
    rw [ho] at hi
    cases u with
    | true =>
      have h1 := ord_lt h ho
      cases hi
      unfold b_icmp_ge; exact decide_eq_false (by rw [Int32.le_iff_toInt_le]; omega)
    | false =>
      have h1 := ord_gt h ho
      cases hi
      unfold b_icmp_ge; exact decide_eq_true (by rw [Int32.le_iff_toInt_le]; omega)
theorem r_icmp_ge {M : aM} {pc t : Nat} {off : Int} (hd : decode M.2.1 pc = .ok (.if_icmp .ge off, 3)) (ht : (pc : Int) + off = (t : Int)) : Ok M pc (oB2 b_icmp_ge q_ge t (pc + 3)) := by
  intro G d p l e R s m args below meth c hF lv st h x hx a b
  unfold oB2 at hx
  split at hx
  · split at hx
    · rename_i hf
      cases hx
      intro Q _ _ k H locs ls hP hS hl
      exact lv_icmp_ge hF.1.1 hF.1.2.1 hd ht (fun _ => k H locs ls hP hS hl) (fun hc => absurd (of_decide_eq_true hf) hc)
    · rename_i hf
      cases hx
      intro Q _ _ k H locs ls hP hS hl
      exact lv_icmp_ge hF.1.1 hF.1.2.1 hd ht (fun hc => absurd hc (of_decide_eq_false hf)) (fun _ => k H locs ls hP hS hl)
  · split at hx
    · rename_i hf
      have hf := s_icmp_ge hF.2.1.2.2.2 hf
      cases hx
      intro Q _ _ k H locs ls hP hS hl
      exact lv_icmp_ge hF.1.1 hF.1.2.1 hd ht (fun _ => k H locs ls hP hS hl) (fun hc => absurd (of_decide_eq_true hf) hc)
    · rename_i hf
      have hf := s_icmp_ge hF.2.1.2.2.2 hf
      cases hx
      intro Q _ _ k H locs ls hP hS hl
      exact lv_icmp_ge hF.1.1 hF.1.2.1 hd ht (fun hc => absurd hc (of_decide_eq_false hf)) (fun _ => k H locs ls hP hS hl)
    · cases hx
  · cases hx
def b_if_gt (x : Int32) : Bool := decide (0 < x)
def q_gt : Bool → Bool
  | true => false
  | false => true
theorem s_if_gt {ρ : Nat → Int32} (h : Rh ρ) {i : Nat} {v : Bool} (hi : (ord i 0).map q_gt = some v) : b_if_gt (ρ i) = v := by
  cases ho : ord i 0 with
  | none => rw [ho] at hi; cases hi
  | some u =>
    rw [ho] at hi
    cases u with
    | true =>
      have h1 := ord_lt h ho
      cases hi
      unfold b_if_gt; exact decide_eq_false (by have z0 : (0 : Int32).toInt = 0 := rfl; rw [Int32.lt_iff_toInt_lt]; omega)
    | false =>
      have h1 := ord_gt h ho
      cases hi
      unfold b_if_gt; exact decide_eq_true (by have z0 : (0 : Int32).toInt = 0 := rfl; rw [Int32.lt_iff_toInt_lt]; omega)
theorem r_if_gt {M : aM} {pc t : Nat} {off : Int} (hd : decode M.2.1 pc = .ok (.ifCond .gt off, 3)) (ht : (pc : Int) + off = (t : Int)) : Ok M pc (oB1 b_if_gt q_gt t (pc + 3)) := by
  intro G d p l e R s m args below meth c hF lv st h x hx a b
  unfold oB1 at hx
  split at hx
  · split at hx
    · rename_i hf
      cases hx
      intro Q _ _ k H locs ls hP hS hl
      exact lv_if_gt hF.1.1 hF.1.2.1 hd ht (fun _ => k H locs ls hP hS hl) (fun hc => absurd (of_decide_eq_true hf) hc)
    · rename_i hf
      cases hx
      intro Q _ _ k H locs ls hP hS hl
      exact lv_if_gt hF.1.1 hF.1.2.1 hd ht (fun hc => absurd hc (of_decide_eq_false hf)) (fun _ => k H locs ls hP hS hl)
  · split at hx
    · rename_i hf
      have hf := s_if_gt hF.2.1.2.2.2 hf
      cases hx
      intro Q _ _ k H locs ls hP hS hl
      exact lv_if_gt hF.1.1 hF.1.2.1 hd ht (fun _ => k H locs ls hP hS hl) (fun hc => absurd (of_decide_eq_true hf) hc)
    · rename_i hf
      have hf := s_if_gt hF.2.1.2.2.2 hf
      cases hx
      intro Q _ _ k H locs ls hP hS hl
      exact lv_if_gt hF.1.1 hF.1.2.1 hd ht (fun hc => absurd hc (of_decide_eq_false hf)) (fun _ => k H locs ls hP hS hl)
    · cases hx
  · cases hx
def b_icmp_gt (x y : Int32) : Bool := decide (y < x)
theorem s_icmp_gt {ρ : Nat → Int32} (h : Rh ρ) {i : Nat} {y : Int32} {v : Bool} (hi : (ord i y.toInt).map q_gt = some v) : b_icmp_gt (ρ i) y = v := by
  cases ho : ord i y.toInt with
  | none => rw [ho] at hi; cases hi
  | some u =>
    rw [ho] at hi
    cases u with
    | true =>
      have h1 := ord_lt h ho
      cases hi
      unfold b_icmp_gt; exact decide_eq_false (by rw [Int32.lt_iff_toInt_lt]; omega)
    | false =>
      have h1 := ord_gt h ho
      cases hi
      unfold b_icmp_gt; exact decide_eq_true (by rw [Int32.lt_iff_toInt_lt]; omega)
theorem r_icmp_gt {M : aM} {pc t : Nat} {off : Int} (hd : decode M.2.1 pc = .ok (.if_icmp .gt off, 3)) (ht : (pc : Int) + off = (t : Int)) : Ok M pc (oB2 b_icmp_gt q_gt t (pc + 3)) := by
  intro G d p l e R s m args below meth c hF lv st h x hx a b
  unfold oB2 at hx
  split at hx
  · split at hx
    · rename_i hf
      cases hx
      intro Q _ _ k H locs ls hP hS hl
      exact lv_icmp_gt hF.1.1 hF.1.2.1 hd ht (fun _ => k H locs ls hP hS hl) (fun hc => absurd (of_decide_eq_true hf) hc)
    · rename_i hf
      cases hx
      intro Q _ _ k H locs ls hP hS hl
      exact lv_icmp_gt hF.1.1 hF.1.2.1 hd ht (fun hc => absurd hc (of_decide_eq_false hf)) (fun _ => k H locs ls hP hS hl)
  · split at hx
    · rename_i hf
      have hf := s_icmp_gt hF.2.1.2.2.2 hf
      cases hx
      intro Q _ _ k H locs ls hP hS hl
      exact lv_icmp_gt hF.1.1 hF.1.2.1 hd ht (fun _ => k H locs ls hP hS hl) (fun hc => absurd (of_decide_eq_true hf) hc)
    · rename_i hf
      have hf := s_icmp_gt hF.2.1.2.2.2 hf
      cases hx
      intro Q _ _ k H locs ls hP hS hl
      exact lv_icmp_gt hF.1.1 hF.1.2.1 hd ht (fun hc => absurd hc (of_decide_eq_false hf)) (fun _ => k H locs ls hP hS hl)
    · cases hx
  · cases hx
def b_if_le (x : Int32) : Bool := decide (x ≤ 0)
def q_le : Bool → Bool
  | true => true
  | false => false
theorem s_if_le {ρ : Nat → Int32} (h : Rh ρ) {i : Nat} {v : Bool} (hi : (ord i 0).map q_le = some v) : b_if_le (ρ i) = v := by
  cases ho : ord i 0 with
  | none => rw [ho] at hi; cases hi
  | some u =>
    rw [ho] at hi
    cases u with
    | true =>
      have h1 := ord_lt h ho
      cases hi
      unfold b_if_le; exact decide_eq_true (by have z0 : (0 : Int32).toInt = 0 := rfl; rw [Int32.le_iff_toInt_le]; omega)
    | false =>
      have h1 := ord_gt h ho
      cases hi
      unfold b_if_le; exact decide_eq_false (by have z0 : (0 : Int32).toInt = 0 := rfl; rw [Int32.le_iff_toInt_le]; omega)
theorem r_if_le {M : aM} {pc t : Nat} {off : Int} (hd : decode M.2.1 pc = .ok (.ifCond .le off, 3)) (ht : (pc : Int) + off = (t : Int)) : Ok M pc (oB1 b_if_le q_le t (pc + 3)) := by
  intro G d p l e R s m args below meth c hF lv st h x hx a b
  unfold oB1 at hx
  split at hx
  · split at hx
    · rename_i hf
      cases hx
      intro Q _ _ k H locs ls hP hS hl
      exact lv_if_le hF.1.1 hF.1.2.1 hd ht (fun _ => k H locs ls hP hS hl) (fun hc => absurd (of_decide_eq_true hf) hc)
    · rename_i hf
      cases hx
      intro Q _ _ k H locs ls hP hS hl
      exact lv_if_le hF.1.1 hF.1.2.1 hd ht (fun hc => absurd hc (of_decide_eq_false hf)) (fun _ => k H locs ls hP hS hl)
  · split at hx
    · rename_i hf
      have hf := s_if_le hF.2.1.2.2.2 hf
      cases hx
      intro Q _ _ k H locs ls hP hS hl
      exact lv_if_le hF.1.1 hF.1.2.1 hd ht (fun _ => k H locs ls hP hS hl) (fun hc => absurd (of_decide_eq_true hf) hc)
    · rename_i hf
      have hf := s_if_le hF.2.1.2.2.2 hf
      cases hx
      intro Q _ _ k H locs ls hP hS hl
      exact lv_if_le hF.1.1 hF.1.2.1 hd ht (fun hc => absurd hc (of_decide_eq_false hf)) (fun _ => k H locs ls hP hS hl)
    · cases hx
  · cases hx
def b_icmp_le (x y : Int32) : Bool := decide (x ≤ y)
theorem s_icmp_le {ρ : Nat → Int32} (h : Rh ρ) {i : Nat} {y : Int32} {v : Bool} (hi : (ord i y.toInt).map q_le = some v) : b_icmp_le (ρ i) y = v := by
  cases ho : ord i y.toInt with
  | none => rw [ho] at hi; cases hi
  | some u =>
    rw [ho] at hi
    cases u with
    | true =>
      have h1 := ord_lt h ho
      cases hi
      unfold b_icmp_le; exact decide_eq_true (by rw [Int32.le_iff_toInt_le]; omega)
    | false =>
      have h1 := ord_gt h ho
      cases hi
      unfold b_icmp_le; exact decide_eq_false (by rw [Int32.le_iff_toInt_le]; omega)
theorem r_icmp_le {M : aM} {pc t : Nat} {off : Int} (hd : decode M.2.1 pc = .ok (.if_icmp .le off, 3)) (ht : (pc : Int) + off = (t : Int)) : Ok M pc (oB2 b_icmp_le q_le t (pc + 3)) := by
  intro G d p l e R s m args below meth c hF lv st h x hx a b
  unfold oB2 at hx
  split at hx
  · split at hx
    · rename_i hf
      cases hx
      intro Q _ _ k H locs ls hP hS hl
      exact lv_icmp_le hF.1.1 hF.1.2.1 hd ht (fun _ => k H locs ls hP hS hl) (fun hc => absurd (of_decide_eq_true hf) hc)
    · rename_i hf
      cases hx
      intro Q _ _ k H locs ls hP hS hl
      exact lv_icmp_le hF.1.1 hF.1.2.1 hd ht (fun hc => absurd hc (of_decide_eq_false hf)) (fun _ => k H locs ls hP hS hl)
  · split at hx
    · rename_i hf
      have hf := s_icmp_le hF.2.1.2.2.2 hf
      cases hx
      intro Q _ _ k H locs ls hP hS hl
      exact lv_icmp_le hF.1.1 hF.1.2.1 hd ht (fun _ => k H locs ls hP hS hl) (fun hc => absurd (of_decide_eq_true hf) hc)
    · rename_i hf
      have hf := s_icmp_le hF.2.1.2.2.2 hf
      cases hx
      intro Q _ _ k H locs ls hP hS hl
      exact lv_icmp_le hF.1.1 hF.1.2.1 hd ht (fun hc => absurd hc (of_decide_eq_false hf)) (fun _ => k H locs ls hP hS hl)
    · cases hx
  · cases hx
