-- locals
def oLI (i n : Nat) : aO := fun lv st h => match lk lv i with
  | some (.inl (.int x)) => nx n lv (.inl (.int x) :: st) h
  | some (.inr (0, j)) => nx n lv (.inr (0, j) :: st) h
  | _ => none
def oLL (i n : Nat) : aO := fun lv st h => match lk lv i with
  | some (.inl (.long x)) => nx n lv (.inl (.long x) :: st) h
  | some (.inr (1, j)) => nx n lv (.inr (1, j) :: st) h
  | _ => none
def oLA (i n : Nat) : aO := fun lv st h => match lk lv i with
  | some (.inl (.ref x)) => nx n lv (.inl (.ref x) :: st) h
  | some (.inr (2, j)) => nx n lv (.inr (2, j) :: st) h
  | _ => none
def oSI (i nL n : Nat) : aO := fun lv st h => match st with
  | .inl (.int x) :: r => match Nat.blt i nL with
    | true => fltF (st1 i) lv (fun lv' => nx n ((i, .inl (.int x)) :: lv') r h)
    | false => none
  | _ => none
def oSL (i nL n : Nat) : aO := fun lv st h => match st with
  | .inl (.long x) :: r => match Nat.blt (i + 1) nL with
    | true => fltF (st2 i) lv (fun lv' => nx n ((i, .inl (.long x)) :: lv') r h)
    | false => none
  | _ => none
def oSA (i nL n : Nat) : aO := fun lv st h => match st with
  | .inl (.ref x) :: r => match Nat.blt i nL with
    | true => fltF (st1 i) lv (fun lv' => nx n ((i, .inl (.ref x)) :: lv') r h)
    | false => none
  | _ => none
def oInc (i : Nat) (k : Int32) (nL n : Nat) : aO := fun lv st h => match lk lv i with
  | some (.inl (.int x)) => match Nat.blt i nL with
    | true => frI (x + k) (fun z => fltF (st1 i) lv (fun lv' => nx n ((i, .inl (.int z)) :: lv') st h))
    | false => none
  | _ => none
theorem blt_of {i n : Nat} (h : Nat.blt i n = true) : i < n := Nat.le_of_ble_eq_true h
theorem r_iload {M : aM} {pc i : Nat} (hd : decode M.2.1 pc = .ok (.iload i, 2)) : Ok M pc (oLI i (pc + 2)) := by
  intro G d p l e R s m args below meth c hF lv st h x hx a b
  unfold oLI at hx
  split at hx
  · rename_i hv
    cases hx
    intro Q _ _ k H locs ls hP hS hl
    exact lv_iload hF.1.1 hF.1.2.1 hd (lk_at hl hv) (k H locs ls hP hS hl)
  · rename_i hv
    cases hx
    intro Q _ _ k H locs ls hP hS hl
    exact lv_iload hF.1.1 hF.1.2.1 hd (lk_at hl hv) (k H locs ls hP hS hl)
  · cases hx
theorem r_iload_n {M : aM} {pc i : Nat} {j : Fin 4} (hd : decode M.2.1 pc = .ok (.iload_n j, 1)) (hj : (j : Nat) = i) : Ok M pc (oLI i (pc + 1)) := by
  intro G d p l e R s m args below meth c hF lv st h x hx a b
  unfold oLI at hx
  split at hx
  · rename_i hv
    cases hx
    intro Q _ _ k H locs ls hP hS hl
    exact lv_iload_n hF.1.1 hF.1.2.1 hd hj (lk_at hl hv) (k H locs ls hP hS hl)
  · rename_i hv
    cases hx
    intro Q _ _ k H locs ls hP hS hl
    exact lv_iload_n hF.1.1 hF.1.2.1 hd hj (lk_at hl hv) (k H locs ls hP hS hl)
  · cases hx
theorem r_lload {M : aM} {pc i : Nat} (hd : decode M.2.1 pc = .ok (.lload i, 2)) : Ok M pc (oLL i (pc + 2)) := by
  intro G d p l e R s m args below meth c hF lv st h x hx a b
  unfold oLL at hx
  split at hx
  · rename_i hv
    cases hx
    intro Q _ _ k H locs ls hP hS hl
    exact lv_lload hF.1.1 hF.1.2.1 hd (lk_at hl hv) (k H locs ls hP hS hl)
  · rename_i hv
    cases hx
    intro Q _ _ k H locs ls hP hS hl
    exact lv_lload hF.1.1 hF.1.2.1 hd (lk_at hl hv) (k H locs ls hP hS hl)
  · cases hx
theorem r_lload_n {M : aM} {pc i : Nat} {j : Fin 4} (hd : decode M.2.1 pc = .ok (.lload_n j, 1)) (hj : (j : Nat) = i) : Ok M pc (oLL i (pc + 1)) := by
  intro G d p l e R s m args below meth c hF lv st h x hx a b
  unfold oLL at hx
  split at hx
  · rename_i hv
    cases hx
    intro Q _ _ k H locs ls hP hS hl
    exact lv_lload_n hF.1.1 hF.1.2.1 hd hj (lk_at hl hv) (k H locs ls hP hS hl)
  · rename_i hv
    cases hx
    intro Q _ _ k H locs ls hP hS hl
    exact lv_lload_n hF.1.1 hF.1.2.1 hd hj (lk_at hl hv) (k H locs ls hP hS hl)
  · cases hx
theorem r_aload {M : aM} {pc i : Nat} (hd : decode M.2.1 pc = .ok (.aload i, 2)) : Ok M pc (oLA i (pc + 2)) := by
  intro G d p l e R s m args below meth c hF lv st h x hx a b
  unfold oLA at hx
  split at hx
  · rename_i hv
    cases hx
    intro Q _ _ k H locs ls hP hS hl
    exact lv_aload hF.1.1 hF.1.2.1 hd (lk_at hl hv) (k H locs ls hP hS hl)
  · rename_i hv
    cases hx
    intro Q _ _ k H locs ls hP hS hl
    exact lv_aload hF.1.1 hF.1.2.1 hd (lk_at hl hv) (k H locs ls hP hS hl)
  · cases hx
theorem r_aload_n {M : aM} {pc i : Nat} {j : Fin 4} (hd : decode M.2.1 pc = .ok (.aload_n j, 1)) (hj : (j : Nat) = i) : Ok M pc (oLA i (pc + 1)) := by
  intro G d p l e R s m args below meth c hF lv st h x hx a b
  unfold oLA at hx
  split at hx
  · rename_i hv
    cases hx
    intro Q _ _ k H locs ls hP hS hl
    exact lv_aload_n hF.1.1 hF.1.2.1 hd hj (lk_at hl hv) (k H locs ls hP hS hl)
  · rename_i hv
    cases hx
    intro Q _ _ k H locs ls hP hS hl
    exact lv_aload_n hF.1.1 hF.1.2.1 hd hj (lk_at hl hv) (k H locs ls hP hS hl)
  · cases hx
theorem tl_c1 {G : aG} {i : Nat} {v : aV} {lv : aL} : (i, tx G v) :: (tl G lv).filter (fun q => !(q.1 == i) && !(q.1 + 1 == i && q.2.category == 2)) = tl G ((i, v) :: lv.filter (st1 i)) := by rw [tl_st1]; rfl
theorem tl_c2 {G : aG} {i : Nat} {v : aV} {lv : aL} : (i, tx G v) :: (tl G lv).filter (fun q => !(q.1 == i) && (!(q.1 == i + 1) && !(q.1 + 1 == i && q.2.category == 2))) = tl G ((i, v) :: lv.filter (st2 i)) := by rw [tl_st2]; rfl
theorem r_istore {M : aM} {pc i : Nat} (hd : decode M.2.1 pc = .ok (.istore i, 2)) : Ok M pc (oSI i M.2.2.1 (pc + 2)) := by
  intro G d p l e R s m args below meth c hF lv st h x hx a b
  unfold oSI at hx
  split at hx
  · split at hx
    · rename_i hb
      rw [fltF_eq] at hx
      cases hx
      intro Q _ _ k H locs ls hP hS hl
      exact lv_istore hF.1.1 hF.1.2.1 hd hl (blt_of hb) (tl_c1 (v := .inl (.int _))) (fun ls' hl' => k H locs ls' hP hS hl')
    · cases hx
  · cases hx
theorem r_istore_n {M : aM} {pc i : Nat} {j : Fin 4} (hd : decode M.2.1 pc = .ok (.istore_n j, 1)) (hj : (j : Nat) = i) : Ok M pc (oSI i M.2.2.1 (pc + 1)) := by
  intro G d p l e R s m args below meth c hF lv st h x hx a b
  unfold oSI at hx
  split at hx
  · split at hx
    · rename_i hb
      rw [fltF_eq] at hx
      cases hx
      intro Q _ _ k H locs ls hP hS hl
      exact lv_istore_n hF.1.1 hF.1.2.1 hd hj hl (blt_of hb) (tl_c1 (v := .inl (.int _))) (fun ls' hl' => k H locs ls' hP hS hl')
    · cases hx
  · cases hx
theorem r_lstore {M : aM} {pc i : Nat} (hd : decode M.2.1 pc = .ok (.lstore i, 2)) : Ok M pc (oSL i M.2.2.1 (pc + 2)) := by
  intro G d p l e R s m args below meth c hF lv st h x hx a b
  unfold oSL at hx
  split at hx
  · split at hx
    · rename_i hb
      rw [fltF_eq] at hx
      cases hx
      intro Q _ _ k H locs ls hP hS hl
      exact lv_lstore hF.1.1 hF.1.2.1 hd hl (blt_of hb) (tl_c2 (v := .inl (.long _))) (fun ls' hl' => k H locs ls' hP hS hl')
    · cases hx
  · cases hx
theorem r_lstore_n {M : aM} {pc i : Nat} {j : Fin 4} (hd : decode M.2.1 pc = .ok (.lstore_n j, 1)) (hj : (j : Nat) = i) : Ok M pc (oSL i M.2.2.1 (pc + 1)) := by
  intro G d p l e R s m args below meth c hF lv st h x hx a b
  unfold oSL at hx
  split at hx
  · split at hx
    · rename_i hb
      rw [fltF_eq] at hx
      cases hx
      intro Q _ _ k H locs ls hP hS hl
      exact lv_lstore_n hF.1.1 hF.1.2.1 hd hj hl (blt_of hb) (tl_c2 (v := .inl (.long _))) (fun ls' hl' => k H locs ls' hP hS hl')
    · cases hx
  · cases hx
theorem r_astore_n {M : aM} {pc i : Nat} {j : Fin 4} (hd : decode M.2.1 pc = .ok (.astore_n j, 1)) (hj : (j : Nat) = i) : Ok M pc (oSA i M.2.2.1 (pc + 1)) := by
  intro G d p l e R s m args below meth c hF lv st h x hx a b
  unfold oSA at hx
  split at hx
  · split at hx
    · rename_i hb
      rw [fltF_eq] at hx
      cases hx
      intro Q _ _ k H locs ls hP hS hl
      exact lv_astore_n hF.1.1 hF.1.2.1 hd hj hl (blt_of hb) (tl_c1 (v := .inl (.ref _))) (fun ls' hl' => k H locs ls' hP hS hl')
    · cases hx
  · cases hx
theorem r_iinc {M : aM} {pc i : Nat} {n : Int} {v : Int32} (hd : decode M.2.1 pc = .ok (.iinc i n, 3)) (hv : Int32.ofInt n = v) : Ok M pc (oInc i v M.2.2.1 (pc + 3)) := by
  intro G d p l e R s m args below meth c hF lv st h x hx a b
  unfold oInc at hx
  split at hx
  · rename_i hk
    split at hx
    · rename_i hb
      rw [frI_eq, fltF_eq] at hx
      cases hx
      intro Q _ _ k H locs ls hP hS hl
      obtain ⟨j, hj⟩ := List.getElem?_of_mem (List.mem_map.mpr ⟨_, lk_spec _ _ _ hk, rfl⟩ : (i, tx G (.inl (Value.int _))) ∈ tl G lv)
      exact lv_iinc hF.1.1 hF.1.2.1 hd hl hj (by rw [hv]) (blt_of hb) (tl_c1 (v := .inl (.int _))) (fun ls' hl' => k H locs ls' hP hS hl')
    · cases hx
  · cases hx
-- jumps
def oGo (t : Nat) : aO := fun lv st h => nx t lv st h
theorem r_goto {M : aM} {pc t : Nat} {off : Int} (hd : decode M.2.1 pc = .ok (.goto off, 3)) (ht : (pc : Int) + off = (t : Int)) : Ok M pc (oGo t) := by
  intro G d p l e R s m args below meth c hF lv st h x hx a b
  cases hx
  intro Q _ _ k H locs ls hP hS hl
  exact lv_goto hF.1.1 hF.1.2.1 hd ht (k H locs ls hP hS hl)
def oNu (t n : Nat) : aO := fun lv st h => match st with
  | .inl (.ref _) :: r => nx n lv r h
  | .inl .null :: r => nx t lv r h
  | _ => none
theorem r_ifnull {M : aM} {pc t : Nat} {off : Int} (hd : decode M.2.1 pc = .ok (.ifnull off, 3)) (ht : (pc : Int) + off = (t : Int)) : Ok M pc (oNu t (pc + 3)) := by
  intro G d p l e R s m args below meth c hF lv st h x hx a b
  unfold oNu at hx
  split at hx
  · cases hx
    intro Q _ _ k H locs ls hP hS hl
    exact lv_ifnull hF.1.1 hF.1.2.1 hd (k H locs ls hP hS hl)
  · cases hx
    intro Q _ _ k H locs ls hP hS hl
    exact lv_ifnullN hF.1.1 hF.1.2.1 hd ht (k H locs ls hP hS hl)
  · cases hx
theorem r_ifnonnull {M : aM} {pc t : Nat} {off : Int} (hd : decode M.2.1 pc = .ok (.ifnonnull off, 3)) (ht : (pc : Int) + off = (t : Int)) : Ok M pc (fun lv st h => oNu (pc + 3) t lv st h) := by
  intro G d p l e R s m args below meth c hF lv st h x hx a b
  dsimp only at hx
  unfold oNu at hx
  split at hx
  · cases hx
    intro Q _ _ k H locs ls hP hS hl
    exact lv_ifnonnull hF.1.1 hF.1.2.1 hd ht (k H locs ls hP hS hl)
  · cases hx
    intro Q _ _ k H locs ls hP hS hl
    exact lv_ifnonnullN hF.1.1 hF.1.2.1 hd (k H locs ls hP hS hl)
  · cases hx
/-- a table from 0 on: its targets -/
def oTb (ts : List Nat) (dt : Nat) : aO := fun lv st h => match st with
  | .inl (.int x) :: r => match decide (x < 0) with
    | true => nx dt lv r h
    | false => match ts[x.toNatClampNeg]? with
      | some t => nx t lv r h
      | none => nx dt lv r h
  | _ => none
theorem r_table {M : aM} {pc dt len : Nat} {ts : List Nat} {dflt hi : Int} {offs : Array Int} (hd : decode M.2.1 pc = .ok (.tableswitch dflt 0 hi offs, len)) (h0 : (pc : Int) + dflt = (dt : Int)) (h1 : offs.toList.map (fun o => (pc : Int) + o) = ts.map (fun t : Nat => (t : Int))) (h2 : hi + 1 = (ts.length : Int)) : Ok M pc (oTb ts dt) := by
  intro G d p l e R s m args below meth c hF lv st h x hx a b
  unfold oTb at hx
  split at hx
  · rename_i z r
    split at hx
    · rename_i hz
      cases hx
      intro Q _ _ k H locs ls hP hS hl
      have hz : z < 0 := of_decide_eq_true hz
      exact lv_tableOut hF.1.1 hF.1.2.1 hd (Or.inl (by simpa using Int32.lt_iff_toInt_lt.mp hz)) h0 (k H locs ls hP hS hl)
    · rename_i hz
      have hz : ¬ z < 0 := of_decide_eq_false hz
      have hz0 : (0 : Int) ≤ z.toInt := by
        have := Int32.not_lt.mp hz
        simpa using Int32.le_iff_toInt_le.mp this
      have hzn : z.toInt = (z.toNatClampNeg : Int) := by
        show z.toInt = ((z.toInt.toNat : Nat) : Int)
        omega
      split at hx
      · rename_i t ht
        cases hx
        intro Q _ _ k H locs ls hP hS hl
        have hlt : z.toNatClampNeg < ts.length := (List.getElem?_eq_some_iff.mp ht).1
        have h3 : (offs.toList.map (fun o => (pc : Int) + o))[z.toNatClampNeg]? = some (t : Int) := by rw [h1, List.getElem?_map, ht]; rfl
        rw [List.getElem?_map] at h3
        obtain ⟨o, ho, ho2⟩ := Option.map_eq_some_iff.mp h3
        exact lv_tableIn hF.1.1 hF.1.2.1 hd (by omega) (by omega) (off := o) (by rw [show (z.toInt - 0).toNat = z.toNatClampNeg by omega, ← Array.getElem?_toList]; exact ho) ho2 (k H locs ls hP hS hl)
      · rename_i ht
        cases hx
        intro Q _ _ k H locs ls hP hS hl
        have hge : ts.length ≤ z.toNatClampNeg := List.getElem?_eq_none_iff.mp ht
        exact lv_tableOut hF.1.1 hF.1.2.1 hd (Or.inr (by omega)) h0 (k H locs ls hP hS hl)
  · cases hx
def oLu (pc : Nat) (ps : List (Int × Int)) (dflt : Int) : aO := fun lv st h => match st with
  | .inl (.int x) :: r => match (pc : Int) + Op.lookupswitch.offset ps dflt x.toInt with
    | .ofNat t => frN t (fun t => nx t lv r h)
    | .negSucc _ => none
  | _ => none
theorem r_lookup {M : aM} {pc len : Nat} {dflt : Int} {ps : Array (Int × Int)} (hd : decode M.2.1 pc = .ok (.lookupswitch dflt ps, len)) (hp : (ps.toList.zip (ps.toList.drop 1)).all (fun (a, next) => a.1 < next.1) = true) : Ok M pc (oLu pc ps.toList dflt) := by
  intro G d p l e R s m args below meth c hF lv st h x hx a b
  unfold oLu at hx
  split at hx
  · split at hx
    · rename_i ht
      rw [frN_eq] at hx
      cases hx
      intro Q _ _ k H locs ls hP hS hl
      exact lv_lookup hF.1.1 hF.1.2.1 hd hp rfl ht (k H locs ls hP hS hl)
    · cases hx
  · cases hx
-- constants of the pool
def oK (v : Value) (n : Nat) : aO := fun lv st h => nx n lv (.inl v :: st) h
theorem r_ldc {M : aM} {pc i : Nat} {v : Int32} (hd : decode M.2.1 pc = .ok (.ldc i, 2)) (hw : Cond.constant M.1.cls i v ∈ tg) : Ok M pc (oK (.int v) (pc + 2)) := by
  intro G d p l e R s m args below meth c hF lv st h x hx a b
  cases hx
  intro Q _ _ k H locs ls hP hS hl
  exact lv_ldc hF.1.1 hF.1.2.1 hF.1.2.2.2.1 (hF.1.2.2.2.2 _ hw) hd (k H locs ls hP hS hl)
theorem r_ldcw {M : aM} {pc i : Nat} {v : Int32} (hd : decode M.2.1 pc = .ok (.ldc_w i, 3)) (hw : Cond.constant M.1.cls i v ∈ tg) : Ok M pc (oK (.int v) (pc + 3)) := by
  intro G d p l e R s m args below meth c hF lv st h x hx a b
  cases hx
  intro Q _ _ k H locs ls hP hS hl
  exact lv_ldcw hF.1.1 hF.1.2.1 hF.1.2.2.2.1 (hF.1.2.2.2.2 _ hw) hd (k H locs ls hP hS hl)
theorem r_ldc2 {M : aM} {pc i : Nat} {v : Int64} (hd : decode M.2.1 pc = .ok (.ldc2_w i, 3)) (hw : Cond.constantLong M.1.cls i v ∈ tg) : Ok M pc (oK (.long v) (pc + 3)) := by
  intro G d p l e R s m args below meth c hF lv st h x hx a b
  cases hx
  intro Q _ _ k H locs ls hP hS hl
  exact lv_ldc2 hF.1.1 hF.1.2.1 hF.1.2.2.2.1 (hF.1.2.2.2.2 _ hw) hd (k H locs ls hP hS hl)
-- ends
def oRI : aO := fun _ st _ => match st with
  | [.inl (.int v)] => some (.inr (.inr (some (.int v))))
  | _ => none
def oRZ : aO := fun _ st _ => match st with
  | [.inl (.int v)] => match decide (narrow .boolean (.int v) = .int v) with
    | true => some (.inr (.inr (some (.int v))))
    | false => none
  | _ => none
def oRL : aO := fun _ st _ => match st with
  | [.inl (.long v)] => some (.inr (.inr (some (.long v))))
  | _ => none
def oRV : aO := fun _ st _ => match st with
  | [] => some (.inr (.inr none))
  | _ => none
theorem r_ireturn {M : aM} {pc : Nat} (hr : M.2.2.2 = some .int) (hd : decode M.2.1 pc = .ok (.ireturn, 1)) : Ok M pc oRI := by
  intro G d p l e R s m args below meth c hF lv st h x hx a b
  unfold oRI at hx
  split at hx
  · cases hx
    intro mc ms h1 h2 H locs ls hP hS hl
    refine W.widen h1 h2 ?_
    have hlocks := hF.2.1.2.1
    exact W.iret hF.1.1 hF.1.2.1 (by rw [hF.2.1.1, hr]) (fun t ht hW => ⟨rfl, by rw [ht]; exact hP, hS.F ht⟩) hS.2.2 hd
  · cases hx
theorem r_zreturn {M : aM} {pc : Nat} (hr : M.2.2.2 = some .boolean) (hd : decode M.2.1 pc = .ok (.ireturn, 1)) : Ok M pc oRZ := by
  intro G d p l e R s m args below meth c hF lv st h x hx a b
  unfold oRZ at hx
  split at hx
  · split at hx
    · rename_i hn
      cases hx
      intro mc ms h1 h2 H locs ls hP hS hl
      refine W.widen h1 h2 ?_
      have hlocks := hF.2.1.2.1
      exact W.zret hF.1.1 hF.1.2.1 (by rw [hF.2.1.1, hr]) (of_decide_eq_true hn) (fun t ht hW => ⟨rfl, by rw [ht]; exact hP, hS.F ht⟩) hS.2.2 hd
    · cases hx
  · cases hx
theorem r_lreturn {M : aM} {pc : Nat} (hr : M.2.2.2 = some .long) (hd : decode M.2.1 pc = .ok (.lreturn, 1)) : Ok M pc oRL := by
  intro G d p l e R s m args below meth c hF lv st h x hx a b
  unfold oRL at hx
  split at hx
  · cases hx
    intro mc ms h1 h2 H locs ls hP hS hl
    refine W.widen h1 h2 ?_
    have hlocks := hF.2.1.2.1
    exact W.lret hF.1.1 hF.1.2.1 (by rw [hF.2.1.1, hr]) (fun t ht hW => ⟨rfl, by rw [ht]; exact hP, hS.F ht⟩) hS.2.2 hd
  · cases hx
theorem r_return {M : aM} {pc : Nat} (hr : M.2.2.2 = none) (hd : decode M.2.1 pc = .ok (.return_, 1)) : Ok M pc oRV := by
  intro G d p l e R s m args below meth c hF lv st h x hx a b
  unfold oRV at hx
  split at hx
  · cases hx
    intro mc ms h1 h2 H locs ls hP hS hl
    refine W.widen h1 h2 ?_
    have hlocks := hF.2.1.2.1
    exact W.vret hF.1.1 hF.1.2.1 (by rw [hF.2.1.1, hr]) (fun t ht hW => ⟨rfl, by rw [ht]; exact hP, hS.F ht⟩) hS.2.2 hd
  · cases hx
