/-! THE LAW'S BODY in the small machine: its script is a value of its own -/
def OkA (G : aG) (M : aM) (d : Nat) (p : Program) (l : Launch) (e : Env) (R : Room) (s : State) (m : MethodId) (args : Array Value) (below : List Frame) (meth : Method) (c : Code) (pc : Nat) (op : aO) : Prop := ∀ (lv : aL) (st : List aV) (h : aH) (x : aX), op lv st h = some x → ∀ a b : Nat, OkX G M d p l e R s m args below meth c pc lv st h a b x
def ML : aM := (yL_law, code, 4, some .boolean)
/-- the law at its frame: a script of L ints, whose first one is k in its last five bits; sc: what is known of them -/
def LC (G : aG) (d : Nat) (p : Program) (R : Room) (s : State) (m : MethodId) (args : Array Value) (meth : Method) (c : Code) (L k : Nat) (sc : List aV) : Prop :=
  Fx G ML d p R s m args meth c ∧ G.1 = s.heap.size ∧ G.2.2.2.2.2.2 < s.heap.size ∧ ∃ xs : Nat → Int32, va_X G.2.2.2.2.2.2 L xs s s.heap ∧ (∀ (j : Nat) (v : aV), sc[j]? = some v → j < L ∧ tx G v = .int (xs j)) ∧ (∀ v : Int32, v = G.2.2.2.2.2.1 8 → v &&& 31 = nI k)
theorem okn {G : aG} {d : Nat} {p : Program} {l : Launch} {e : Env} {R : Room} {s : State} {m : MethodId} {args : Array Value} {below : List Frame} {meth : Method} {c : Code} {L k : Nat} {sc : List aV} (C : LC G d p R s m args meth c L k sc) {pc : Nat} {op : aO} (h : Ok ML pc op) : OkA G ML d p l e R s m args below meth c pc op := h G d p l e R s m args below meth c C.1
def oSc (sc : List aV) (n : Nat) : aO := fun lv st h => match st with
  | .inl (.int j) :: .inr (2, _) :: r => match decide (j < 0) with
    | true => none
    | false => match sc[j.toNatClampNeg]? with
      | some v => nx n lv (v :: r) h
      | none => none
  | _ => none
def oSn (L n : Nat) : aO := fun lv st h => match st with
  | .inr (2, _) :: r => nx n lv (.inl (.int (Int32.ofNat L)) :: r) h
  | _ => none
def oAk (k n : Nat) : aO := fun lv st h => match st with
  | .inl (.int z) :: .inr (0, 8) :: r => match decide (z = 31) with
    | true => nx n lv (.inl (.int (nI k)) :: r) h
    | false => none
  | _ => none
theorem okSc {G : aG} {d : Nat} {p : Program} {l : Launch} {e : Env} {R : Room} {s : State} {m : MethodId} {args : Array Value} {below : List Frame} {meth : Method} {c : Code} {L k : Nat} {sc : List aV} (C : LC G d p R s m args meth c L k sc) {pc : Nat} (hd : decode ML.2.1 pc = .ok (.iaload, 1)) : OkA G ML d p l e R s m args below meth c pc (oSc sc (pc + 1)) := by
  intro lv st h x hx a b
  obtain ⟨hF, hG, hlt, xs, hX, hsc, -⟩ := C
  unfold oSc at hx
  split at hx
  · split at hx
    · cases hx
    · rename_i hz
      have hz := of_decide_eq_false hz
      split at hx
      · rename_i hv
        cases hx
        intro Q _ _ kk H locs ls hP hS hll
        obtain ⟨g1, g2⟩ := hsc _ _ hv
        refine va_sld hF.1.1 hF.1.2.1 hX hlt (A := fun q : Nat => G.1 ≤ q) (by rw [hG]; exact Nat.not_le.mpr hlt) hS (fun q => q.elim hz (fun q => absurd g1 (Nat.not_lt.mpr q))) hd ?_
        rw [← g2]
        exact kk H locs ls hP hS hll
      · cases hx
  · cases hx
theorem okSn {G : aG} {d : Nat} {p : Program} {l : Launch} {e : Env} {R : Room} {s : State} {m : MethodId} {args : Array Value} {below : List Frame} {meth : Method} {c : Code} {L k : Nat} {sc : List aV} (C : LC G d p R s m args meth c L k sc) {pc : Nat} (hd : decode ML.2.1 pc = .ok (.arraylength, 1)) : OkA G ML d p l e R s m args below meth c pc (oSn L (pc + 1)) := by
  intro lv st h x hx a b
  obtain ⟨hF, hG, hlt, xs, hX, hsc, -⟩ := C
  unfold oSn at hx
  split at hx
  · cases hx
    intro Q _ _ kk H locs ls hP hS hll
    exact va_slen hF.1.1 hF.1.2.1 hX hlt (A := fun q : Nat => G.1 ≤ q) (by rw [hG]; exact Nat.not_le.mpr hlt) hS hd (kk H locs ls hP hS hll)
  · cases hx
theorem okAk {G : aG} {d : Nat} {p : Program} {l : Launch} {e : Env} {R : Room} {s : State} {m : MethodId} {args : Array Value} {below : List Frame} {meth : Method} {c : Code} {L k : Nat} {sc : List aV} (C : LC G d p R s m args meth c L k sc) {pc : Nat} (hd : decode ML.2.1 pc = .ok (.iand, 1)) : OkA G ML d p l e R s m args below meth c pc (oAk k (pc + 1)) := by
  intro lv st h x hx a b
  obtain ⟨hF, hG, hlt, xs, hX, hsc, hk⟩ := C
  unfold oAk at hx
  split at hx
  · split at hx
    · rename_i hz
      have hz := of_decide_eq_true hz
      subst hz
      cases hx
      intro Q _ _ kk H locs ls hP hS hll
      refine lv_iand hF.1.1 hF.1.2.1 hd ?_
      rw [hk _ rfl]
      exact kk H locs ls hP hS hll
    · cases hx
  · cases hx
/-- a run up to a place, with nothing on the stack there -/
def runB (call : Nat → List aV → aH → aR) (pr : aP) (sp mc ms : Nat) : Nat → Nat → aL → List aV → aH → Nat → Nat → Bool
  | 0, _, _, _, _, _, _ => false
  | n + 1, pc, lv, st, h, a, b => match Nat.beq pc sp with
    | true => match st with
      | [] => true
      | _ :: _ => false
    | false => match lkb pr pc with
      | none => false
      | some op => match op lv st h with
        | some (.inl (pc', lv', st', h', 0, 0)) => runB call pr sp mc ms n pc' lv' st' h' a b
        | some (.inr (.inl (mid, as, rest))) => match call mid as h with
          | none => false
          | some (r, h1) => match MD mid with
            | (_, 0, 0) => runB call pr sp mc ms n (pc + 3) lv (rl r ++ rest) h1 a b
            | _ => false
        | _ => false
theorem runB_sound {G : aG} {M : aM} {d : Nat} {p : Program} {l : Launch} {e : Env} {R : Room} {s : State} {m : MethodId} {args : Array Value} {below : List Frame} {meth : Method} {c : Code} {pr : aP} (hok : ∀ b ∈ pr, ∀ q ∈ b.2, OkA G M d p l e R s m args below meth c q.1 q.2) {sp mc ms : Nat} (hc : mc ≤ R.cells) (hs : ms ≤ R.slots) {call : Nat → List aV → aH → aR} (hcall : ∀ (mid : Nat) (as : List aV) (h : aH) (r : Option Value) (h' : aH), call mid as h = some (r, h') → MtE l G d (MD mid) as h r h') {Q : State → Prop} (hQ : ∀ (lv : aL) (h : aH) (a b : Nat), a ≤ mc → b ≤ ms → Wc G M.2.2.1 p l e R s m args below meth c Q sp lv [] h a b) : ∀ (n pc : Nat) (lv : aL) (st : List aV) (h : aH) (a b : Nat), a ≤ mc → b ≤ ms → runB call pr sp mc ms n pc lv st h a b = true → Wc G M.2.2.1 p l e R s m args below meth c Q pc lv st h a b := by
  intro n
  induction n with
  | zero => intro pc lv st h a b _ _ hr; cases hr
  | succ n ih =>
    intro pc lv st h a b ha hb hr
    unfold runB at hr
    split at hr
    · rename_i hpc
      split at hr
      · rw [Nat.eq_of_beq_eq_true hpc]
        exact hQ lv h a b ha hb
      · cases hr
    · split at hr
      · cases hr
      · rename_i op hop
        obtain ⟨bl, hbl, hq⟩ := lkb_spec pr pc op hop
        have K := hok bl hbl (pc, op) hq lv st h
        split at hr
        · rename_i pc' lv' st' h1 hx
          exact K _ hx a b Q (Nat.le_trans ha hc) (Nat.le_trans hb hs) (ih pc' lv' st' h1 a b ha hb hr)
        · rename_i mid as rest hx
          split at hr
          · cases hr
          · rename_i rv h1 hcl
            have K1 := K _ hx a b Q rv h1 (hcall mid as h rv h1 hcl)
            dsimp only at K1
            split at hr
            · rename_i x3 hmd
              rw [hmd] at K1
              exact K1 (Nat.le_trans ha hc) (Nat.le_trans hb hs) (ih (pc + 3) lv _ h1 a b ha hb hr)
            · cases hr
        · cases hr
