theorem in_of {α : Type} {l : List α} {j : Int32} {x : α} (h0 : ¬ j < 0) (h : l[j.toNatClampNeg]? = some x) : vp_in j l.length := fun q => q.elim h0 (fun q => absurd (List.getElem?_eq_some_iff.mp h).1 (Nat.not_lt.mpr q))
theorem getD_of {α : Type} {l : List α} {i : Nat} {x d : α} (h : l[i]? = some x) : l.getD i d = x := by rw [List.getD_eq_getElem?_getD, h]; rfl
theorem ls_getD {α : Type} {l : List α} {i : Nat} {x d : α} (hi : i < l.length) (q : Nat) : (l.set i x).getD q d = if q = i then x else l.getD q d := by
  rw [List.getD_eq_getElem?_getD, List.getD_eq_getElem?_getD, List.getElem?_set]
  by_cases hq : q = i
  · subst hq
    simp [hi]
  · rw [if_neg (Ne.symm hq), if_neg hq]
def oAI (n : Nat) : aO := fun lv st h => match st with
  | .inl (.int j) :: .inl (.ref a) :: r => match h[a]? with
    | some (.inl l) => match decide (j < 0) with
      | true => none
      | false => match l[j.toNatClampNeg]? with
        | some x => nx n lv (.inl (.int x) :: r) h
        | none => none
    | _ => none
  | _ => none
theorem r_iaload {M : aM} {pc : Nat} (hd : decode M.2.1 pc = .ok (.iaload, 1)) : Ok M pc (oAI (pc + 1)) := by
  intro G d p l e R s m args below meth c hF lv st h x hx a b
  unfold oAI at hx
  split at hx
  · split at hx
    · rename_i ha
      split at hx
      · cases hx
      · rename_i hz
        have hz := of_decide_eq_false hz
        split at hx
        · rename_i hv
          cases hx
          intro Q _ _ kk H locs ls hP hS hll
          refine va_iald hF.1.1 hF.1.2.1 hF.2.2.1.1 hP.1 _ 0 (hp_at ha) rfl (in_of hz hv) hd ?_
          try dsimp only
          rw [getD_of hv]
          exact kk H locs ls hP hS hll
        · cases hx
    · cases hx
  · cases hx
def oAL (n : Nat) : aO := fun lv st h => match st with
  | .inl (.int j) :: .inl (.ref a) :: r => match h[a]? with
    | some (.inr (.inl l)) => match decide (j < 0) with
      | true => none
      | false => match l[j.toNatClampNeg]? with
        | some x => nx n lv (.inl (.long x) :: r) h
        | none => none
    | _ => none
  | _ => none
theorem r_laload {M : aM} {pc : Nat} (hd : decode M.2.1 pc = .ok (.laload, 1)) : Ok M pc (oAL (pc + 1)) := by
  intro G d p l e R s m args below meth c hF lv st h x hx a b
  unfold oAL at hx
  split at hx
  · split at hx
    · rename_i ha
      split at hx
      · cases hx
      · rename_i hz
        have hz := of_decide_eq_false hz
        split at hx
        · rename_i hv
          cases hx
          intro Q _ _ kk H locs ls hP hS hll
          refine va_lald hF.1.1 hF.1.2.1 hF.2.2.1.1 hP.1 _ 1 (hp_at ha) rfl (in_of hz hv) hd ?_
          try dsimp only
          rw [getD_of hv]
          exact kk H locs ls hP hS hll
        · cases hx
    · cases hx
  · cases hx
def oAA (n : Nat) : aO := fun lv st h => match st with
  | .inl (.int j) :: .inl (.ref a) :: r => match h[a]? with
    | some (.inr (.inr (.inl l))) => match decide (j < 0) with
      | true => none
      | false => match l[j.toNatClampNeg]? with
        | some (some x) => nx n lv (.inl (.ref x) :: r) h
        | some none => nx n lv (.inl .null :: r) h
        | none => none
    | _ => none
  | _ => none
theorem r_aaload {M : aM} {pc : Nat} (hd : decode M.2.1 pc = .ok (.aaload, 1)) : Ok M pc (oAA (pc + 1)) := by
  intro G d p l e R s m args below meth c hF lv st h x hx a b
  unfold oAA at hx
  split at hx
  · split at hx
    · rename_i ha
      split at hx
      · cases hx
      · rename_i hz
        have hz := of_decide_eq_false hz
        split at hx
        · rename_i hv
          cases hx
          intro Q _ _ kk H locs ls hP hS hll
          refine va_aldq (C := RX0) hF.1.1 hF.1.2.1 hF.2.2.1.1 hP.1 _ 2 (hp_at ha) rfl (in_of hz hv) hd ?_
          try dsimp only
          rw [getD_of hv]
          exact kk H locs ls hP hS hll
        · rename_i hv
          cases hx
          intro Q _ _ kk H locs ls hP hS hll
          refine va_aldq (C := RX0) hF.1.1 hF.1.2.1 hF.2.2.1.1 hP.1 _ 2 (hp_at ha) rfl (in_of hz hv) hd ?_
          try dsimp only
          rw [getD_of hv]
          exact kk H locs ls hP hS hll
        · cases hx
    · cases hx
  · cases hx
def oAT (n : Nat) : aO := fun lv st h => match st with
  | .inl (.int v) :: .inl (.int j) :: .inl (.ref a) :: r => match h[a]? with
    | some (.inl l) => match decide (j < 0) with
      | true => none
      | false => match l[j.toNatClampNeg]? with
        | some _ => setF l j.toNatClampNeg v (fun l' => setF h a (.inl l') (fun h' => nx n lv r h'))
        | none => none
    | _ => none
  | _ => none
theorem r_iastore {M : aM} {pc : Nat} (hd : decode M.2.1 pc = .ok (.iastore, 1)) : Ok M pc (oAT (pc + 1)) := by
  intro G d p l e R s m args below meth c hF lv st h x hx a b
  unfold oAT at hx
  split at hx
  · split at hx
    · rename_i ha
      split at hx
      · cases hx
      · rename_i hz
        have hz := of_decide_eq_false hz
        split at hx
        · rename_i hv
          rw [setF_eq, setF_eq] at hx
          cases hx
          intro Q _ _ kk H locs ls hP hS hll
          have hlt := (List.getElem?_eq_some_iff.mp hv).1
          refine W.iast hF.1.1 hF.1.2.1 (hP.1 _ _ (hp_at ha)) ((hF.2.2.1.1.2 0 _ rfl).1 _ _) (fun q => by cases q) (by show ¬ (_ < 0 ∨ (arrV _ _ _).slots.size ≤ _); rw [arrV_size]; exact in_of hz hv) rfl rfl hd fun H1 e z oq => ?_
          refine kk H1 _ ls (hp_set hP ha z oq ?_) (hS.put z oq (Nat.le_add_right _ _)) hll
          show H1[_]? = some (vp_cell _ ((List.set _ _ _).length, .inl (fun q => (List.set _ _ _).getD q 0)))
          rw [e, List.length_set]
          rw [vp_cell_i, vp_cell_i, arrV_store]
          congr 2
          funext q
          rw [ls_getD hlt]
          simp only [updV]
          split <;> rename_i hq <;> simp [hq, va_rf]
        · cases hx
    · cases hx
  · cases hx
def oAJ (n : Nat) : aO := fun lv st h => match st with
  | .inl (.long v) :: .inl (.int j) :: .inl (.ref a) :: r => match h[a]? with
    | some (.inr (.inl l)) => match decide (j < 0) with
      | true => none
      | false => match l[j.toNatClampNeg]? with
        | some _ => setF l j.toNatClampNeg v (fun l' => setF h a (.inr (.inl l')) (fun h' => nx n lv r h'))
        | none => none
    | _ => none
  | _ => none
theorem r_lastore {M : aM} {pc : Nat} (hd : decode M.2.1 pc = .ok (.lastore, 1)) : Ok M pc (oAJ (pc + 1)) := by
  intro G d p l e R s m args below meth c hF lv st h x hx a b
  unfold oAJ at hx
  split at hx
  · split at hx
    · rename_i ha
      split at hx
      · cases hx
      · rename_i hz
        have hz := of_decide_eq_false hz
        split at hx
        · rename_i hv
          rw [setF_eq, setF_eq] at hx
          cases hx
          intro Q _ _ kk H locs ls hP hS hll
          have hlt := (List.getElem?_eq_some_iff.mp hv).1
          refine W.last hF.1.1 hF.1.2.1 (hP.1 _ _ (hp_at ha)) ((hF.2.2.1.1.2 1 _ rfl).1 _ _) (fun q => by cases q) (by show ¬ (_ < 0 ∨ (arrV _ _ _).slots.size ≤ _); rw [arrV_size]; exact in_of hz hv) rfl rfl hd fun H1 e z oq => ?_
          refine kk H1 _ ls (hp_set hP ha z oq ?_) (hS.put z oq (Nat.le_add_right _ _)) hll
          show H1[_]? = some (vp_cell _ ((List.set _ _ _).length, .inr (.inl (fun q => (List.set _ _ _).getD q 0))))
          rw [e, List.length_set]
          rw [vp_cell_l, vp_cell_l, arrV_store]
          congr 2
          funext q
          rw [ls_getD hlt]
          simp only [updV]
          split <;> rename_i hq <;> simp [hq, va_rf]
        · cases hx
    · cases hx
  · cases hx
/-- a Board into an array of them -/
def oAB (n : Nat) : aO := fun lv st h => match st with
  | .inl (.ref v) :: .inl (.int j) :: .inl (.ref a) :: r => match h[a]? with
    | some (.inr (.inr (.inl l))) => match decide (j < 0) with
      | true => none
      | false => match l[j.toNatClampNeg]? with
        | some _ => match h[v]? with
          | some (.inr (.inr (.inr (0, _)))) => setF l j.toNatClampNeg (some v) (fun l' => setF h a (.inr (.inr (.inl l'))) (fun h' => nx n lv r h'))
          | _ => none
        | none => none
    | _ => none
  | _ => none
theorem r_aastore {M : aM} {pc : Nat} (hd : decode M.2.1 pc = .ok (.aastore, 1)) : Ok M pc (oAB (pc + 1)) := by
  intro G d p l e R s m args below meth c hF lv st h x hx a b
  unfold oAB at hx
  split at hx
  · split at hx
    · rename_i ha
      split at hx
      · cases hx
      · rename_i hz
        have hz := of_decide_eq_false hz
        split at hx
        · rename_i hv
          split at hx
          · rename_i hw
            rw [setF_eq, setF_eq] at hx
            cases hx
            intro Q _ _ kk H locs ls hP hS hll
            have hlt := (List.getElem?_eq_some_iff.mp hv).1
            obtain ⟨r', hr', cellV, g1, g2, g3, -⟩ := hP.1 _ _ (hp_at hw)
            have hc0 : vwCl[0]? = some (RX0, TX0, 19) := rfl
            have hcls := (hF.2.2.1.1.1 0 _ hc0).2
            obtain ⟨kA, comp, k1, k2, k3, -⟩ := (hF.2.2.1.1.2 2 _ rfl).2
            have hcomp : comp = G.2.1.1 0 := Option.some.inj (k3.symm.trans hcls.1)
            subst hcomp
            obtain ⟨kC, hkC, -⟩ := hcls.2
            refine W.aast hF.1.1 hF.1.2.1 (hP.1 _ _ (hp_at ha)) (fun q h => by cases h) (fun h => by cases h) k1 k2 rfl hkC ⟨hz, by show _ < (arrV _ _ _).slots.size; rw [arrV_size]; exact hlt⟩ g1 (fun q h => by rw [g3] at h; cases h) (by rw [g2]; exact hkC) (by rw [g2]; exact va_assign hcls) rfl rfl hd fun H1 e z oq => ?_
            refine kk H1 _ ls (hp_set hP ha z oq ?_) (hS.put z oq (Nat.le_add_right _ _)) hll
            show H1[_]? = some (vp_cell _ ((List.set _ _ _).length, .inr (.inr (.inr (.inr (fun q => ((List.set _ _ _).getD q none).map (G.1 + ·)))))))
            rw [e, List.length_set]
            rw [vp_cell_q, vp_cell_q, arrV_store]
            congr 2
            funext q
            rw [ls_getD hlt]
            simp only [updV]
            split <;> rename_i hq <;> simp [hq, va_rf]
          · cases hx
        · cases hx
    · cases hx
  · cases hx
def oAn (n : Nat) : aO := fun lv st h => match st with
  | .inl (.ref a) :: r => match h[a]? with
    | some (.inl l) => frI (Int32.ofNat l.length) (fun z => nx n lv (.inl (.int z) :: r) h)
    | _ => none
  | _ => none
theorem r_alen {M : aM} {pc : Nat} (hd : decode M.2.1 pc = .ok (.arraylength, 1)) : Ok M pc (oAn (pc + 1)) := by
  intro G d p l e R s m args below meth c hF lv st h x hx a b
  unfold oAn at hx
  split at hx
  · split at hx
    · rename_i ha
      rw [frI_eq] at hx
      cases hx
      intro Q _ _ kk H locs ls hP hS hll
      exact va_alen hF.1.1 hF.1.2.1 hF.2.2.1.1 hP.1 _ 0 (hp_at ha) rfl rfl hd (kk H locs ls hP hS hll)
    · cases hx
  · cases hx
/-- a new array of ints, of longs, of Boards; a new object -/
def oNI (n : Nat) : aO := fun lv st h => match st with
  | .inl (.int z) :: r => match decide (z < 0) with
    | true => none
    | false => match Nat.ble (z.toNatClampNeg * 8) 536870912 with
      | true => appF (.inl (List.replicate z.toNatClampNeg 0)) h 0 (fun h' q => some (.inl (n, lv, .inl (.ref q) :: r, h', 1, z.toNatClampNeg)))
      | false => none
  | _ => none
def oNJ (n : Nat) : aO := fun lv st h => match st with
  | .inl (.int z) :: r => match decide (z < 0) with
    | true => none
    | false => match Nat.ble (z.toNatClampNeg * 8) 536870912 with
      | true => appF (.inr (.inl (List.replicate z.toNatClampNeg 0))) h 0 (fun h' q => some (.inl (n, lv, .inl (.ref q) :: r, h', 1, z.toNatClampNeg)))
      | false => none
  | _ => none
def oNB (n : Nat) : aO := fun lv st h => match st with
  | .inl (.int z) :: r => match decide (z < 0) with
    | true => none
    | false => match Nat.ble (z.toNatClampNeg * 8) 536870912 with
      | true => appF (.inr (.inr (.inl (List.replicate z.toNatClampNeg none)))) h 0 (fun h' q => some (.inl (n, lv, .inl (.ref q) :: r, h', 1, z.toNatClampNeg)))
      | false => none
  | _ => none
def oNO (ci N : Nat) (fs : List Value) (n : Nat) : aO := fun lv st h => appF (.inr (.inr (.inr (ci, fs)))) h 0 (fun h' q => some (.inl (n, lv, .inl (.ref q) :: st, h', 1, N)))
theorem rep_getD {α : Type} (n q : Nat) (d : α) : (List.replicate n d).getD q d = d := by
  rw [List.getD_eq_getElem?_getD, List.getElem?_replicate]
  split <;> rfl
theorem r_newI {M : aM} {pc : Nat} (hd : decode M.2.1 pc = .ok (.newarray .int, 2)) (hw : Cond.arrayClass .int ∈ tg) : Ok M pc (oNI (pc + 2)) := by
  intro G d p l e R s m args below meth c hF lv st h x hx a b
  unfold oNI at hx
  split at hx
  · split at hx
    · cases hx
    · rename_i hz
      have hz := of_decide_eq_false hz
      split at hx
      · rename_i hb
        have hb := Nat.le_of_ble_eq_true hb
        rw [appF_eq] at hx
        cases hx
        intro Q h1 h2 kk H locs ls hP hS hll
        refine va_newaK (atype := .int) hF.1.1 hF.1.2.1 (hF.1.2.2.2.2 _ hw) rfl hd rfl hz rfl (Nat.le_trans (Nat.mul_le_mul_left _ (by decide)) hb) h1 h2 rfl fun H1 cA e1 z1 o1 hAr hNm => ?_
        have hcA : cA = G.2.2.1 := Option.some.inj (hNm.symm.trans (hF.2.2.1.1.2 0 _ rfl).2)
        subst hcA
        have hq : 0 + h.length = h.length := Nat.zero_add _
        have := kk H1 locs ls (hp_push hP z1 o1 ?_) (hS.grow (by omega) o1) hll
        · dsimp only at this
          rw [hq] at this
          have e2 : H.size = G.1 + h.length := hP.2
          rw [e2]
          exact this
        · show H1[_]? = some (vp_cell _ ((List.replicate _ _).length, .inl (fun q => (List.replicate _ (0 : Int32)).getD q 0)))
          rw [e1, List.length_replicate, vp_cell_i]
          congr 2
          funext q
          rw [rep_getD]
          rfl
      · cases hx
  · cases hx
theorem r_newJ {M : aM} {pc : Nat} (hd : decode M.2.1 pc = .ok (.newarray .long, 2)) (hw : Cond.arrayClass .long ∈ tg) : Ok M pc (oNJ (pc + 2)) := by
  intro G d p l e R s m args below meth c hF lv st h x hx a b
  unfold oNJ at hx
  split at hx
  · split at hx
    · cases hx
    · rename_i hz
      have hz := of_decide_eq_false hz
      split at hx
      · rename_i hb
        have hb := Nat.le_of_ble_eq_true hb
        rw [appF_eq] at hx
        cases hx
        intro Q h1 h2 kk H locs ls hP hS hll
        refine va_newaK (atype := .long) hF.1.1 hF.1.2.1 (hF.1.2.2.2.2 _ hw) rfl hd rfl hz rfl (Nat.le_trans (Nat.mul_le_mul_left _ (by decide)) hb) h1 h2 rfl fun H1 cA e1 z1 o1 hAr hNm => ?_
        have hcA : cA = G.2.2.2.1 := Option.some.inj (hNm.symm.trans (hF.2.2.1.1.2 1 _ rfl).2)
        subst hcA
        have hq : 0 + h.length = h.length := Nat.zero_add _
        have := kk H1 locs ls (hp_push hP z1 o1 ?_) (hS.grow (by omega) o1) hll
        · dsimp only at this
          rw [hq] at this
          have e2 : H.size = G.1 + h.length := hP.2
          rw [e2]
          exact this
        · show H1[_]? = some (vp_cell _ ((List.replicate _ _).length, .inr (.inl (fun q => (List.replicate _ (0 : Int64)).getD q 0))))
          rw [e1, List.length_replicate, vp_cell_l]
          congr 2
          funext q
          rw [rep_getD]
          rfl
      · cases hx
  · cases hx
theorem r_newB {M : aM} {pc idx : Nat} (hd : decode M.2.1 pc = .ok (.anewarray idx, 3)) (hw : Cond.classLink M.1.cls idx RX0 ∈ tg) : Ok M pc (oNB (pc + 3)) := by
  intro G d p l e R s m args below meth c hF lv st h x hx a b
  unfold oNB at hx
  split at hx
  · split at hx
    · cases hx
    · rename_i hz
      have hz := of_decide_eq_false hz
      split at hx
      · rename_i hb
        have hb := Nat.le_of_ble_eq_true hb
        rw [appF_eq] at hx
        cases hx
        intro Q h1 h2 kk H locs ls hP hS hll
        refine W.anew hF.1.1 hF.1.2.1 hF.1.2.2.2.1 (hF.1.2.2.2.2 _ hw) (va_AO.use hF.2.2.1.2.1) rfl hd rfl hz (Nat.le_trans (Nat.mul_le_mul_left _ (by decide)) hb) h1 h2 fun cA kA comp f1 f2 f3 f4 => ?_
        obtain ⟨kA2, comp2, -, -, -, k4⟩ := (hF.2.2.1.1.2 2 _ rfl).2
        have hcA : cA = G.2.2.2.2.1 := Option.some.inj (f1.symm.trans k4)
        subst hcA
        rename_i z _ _ _ _ _
        generalize hH1 : H.push ({ cls := G.2.2.2.2.1, slots := Array.replicate z.toNatClampNeg .null, vm := .none } : Cell) = H1
        have z1 : H1.size = H.size + 1 := by rw [← hH1, Array.size_push]
        have e1 : H1[H.size]? = some (arrV G.2.2.2.2.1 z.toNatClampNeg (fun _ => .null)) := by rw [← hH1, Array.getElem?_push_size, ← arrV_new]
        have o1 : ∀ q : Nat, q < H.size → H1[q]? = H[q]? := fun q hq => by rw [← hH1, Array.getElem?_push, if_neg (Nat.ne_of_lt hq)]
        have hq : 0 + h.length = h.length := Nat.zero_add _
        have := kk H1 locs ls (hp_push hP z1 o1 ?_) (hS.grow (by omega) o1) hll
        · dsimp only at this
          rw [hq] at this
          have e2 : H.size = G.1 + h.length := hP.2
          rw [e2]
          exact this
        · show H1[_]? = some (vp_cell _ ((List.replicate _ _).length, .inr (.inr (.inr (.inr (fun q => ((List.replicate _ (none : Option Nat)).getD q none).map (G.1 + ·)))))))
          rw [e1, List.length_replicate, vp_cell_q]
          congr 2
          funext q
          rw [rep_getD]
          rfl
      · cases hx
  · cases hx
theorem r_new {M : aM} {pc ci idx : Nat} {C : String} {T : u_T} {N : Nat} {ty : Nat → FieldType} {fs : List Value} (hd : decode M.2.1 pc = .ok (.new idx, 3)) (cd : CD ci C T N ty) (hl : Cond.classLink M.1.cls idx C ∈ tg) (hf : ∀ S j : Nat, j < N → defaultValue (ty j) = vp_V (fs.map (tv S)) j) : Ok M pc (oNO ci N fs (pc + 3)) := by
  intro G d p l e R s m args below meth c hF lv st h x hx a b
  unfold oNO at hx
  rw [appF_eq] at hx
  cases hx
  intro Q h1 h2 kk H locs ls hP hS hll
  have hKn := hF.2.2.1.1.1 ci _ cd.1
  refine W.newcK hF.1.1 hF.1.2.1 hF.1.2.2.2.1 (hF.1.2.2.2.2 _ hl) (hF.1.2.2.2.2 _ cd.2.2.2.2.1) (hF.1.2.2.2.2 _ cd.2.2.2.2.2) rfl hd h1 h2 hKn.2.1 rfl fun H1 kC hkC e1 z1 o1 => ?_
  have hq : 0 + h.length = h.length := Nat.zero_add _
  have := kk H1 locs ls (hp_push hP z1 o1 ?_) (hS.grow (by omega) o1) hll
  · dsimp only at this
    rw [hq] at this
    have e2 : H.size = G.1 + h.length := hP.2
    rw [e2]
    exact this
  · exact ⟨_, cd.1, (u_born ty hF.1.2.2.2.2 cd.2.1 hKn hkC e1 cd.2.2.1).to (hf G.1)⟩
