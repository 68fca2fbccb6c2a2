/-- a class of the tables -/
def CD (ci : Nat) (C : String) (T : u_T) (N : Nat) (ty : Nat → FieldType) : Prop := vwCl[ci]? = some (C, T, N) ∧ (∀ w ∈ u_ws C T N, w ∈ tg) ∧ (∀ k, k < N → parseFieldDescriptor (T k).2.2.1 = some (ty k)) ∧ (∀ a, a < N → ∀ b, b < N → a ≠ b → (T a).2.1 ≠ (T b).2.1) ∧ Cond.instantiable C N ∈ tg ∧ Cond.initialized C ∈ tg
def oGe (ci k n : Nat) : aO := fun lv st h => match st with
  | .inl (.ref a) :: r => match h[a]? with
    | some (.inr (.inr (.inr (cj, fs)))) => match Nat.beq cj ci with
      | true => match fs[k]? with
        | some v => nx n lv (.inl v :: r) h
        | none => none
      | false => none
    | _ => none
  | _ => none
theorem r_get {M : aM} {pc ci idx : Nat} {C : String} {T : u_T} {N : Nat} {ty : Nat → FieldType} (hd : decode M.2.1 pc = .ok (.getfield idx, 3)) (cd : CD ci C T N ty) (k : Nat) (hk : k < N) (hl : Cond.fieldLink M.1.cls idx C (T k).2.1 (T k).2.2.1 ∈ tg) (h1 : (T k).1 = C) : Ok M pc (oGe ci k (pc + 3)) := by
  intro G d p l e R s m args below meth c hF lv st h x hx a b
  unfold oGe at hx
  split at hx
  · split at hx
    · rename_i ha
      split at hx
      · rename_i hb
        have hb := Nat.eq_of_beq_eq_true hb
        subst hb
        split at hx
        · rename_i hv
          cases hx
          intro Q _ _ kk H locs ls hP hS hll
          refine va_get hF.1.1 hF.1.2.1 hF.1.2.2.2.2 cd.2.1 hF.1.2.2.2.1 hF.2.2.1.1 hP.1 _ (hp_at ha) cd.1 k hk (hF.1.2.2.2.2 _ hl) (fun x hx => by rw [h1] at hx; exact hx) (by rw [List.getElem?_map, hv]; rfl) hd (kk H locs ls hP hS hll)
        · cases hx
      · cases hx
    · cases hx
  · cases hx
section PZ
variable {p : Program} {l : Launch} {e : Env} {R : Room} {s : State} {m : MethodId} {args : Array Value} {below : List Frame} {meth : Method} {c : Code} {H : Heap} {locs : List Loc} {cells slots : Nat} {Q : State → Prop} {cc : ByteArray} {pc : Nat} {ls : Array Slot} {rest : List Value} {D : va_G} {cl : List vw_C} {a : Nat} {tys : List (ClassId × FieldType)} {ws : va_W}
/-- a field is written: sizes stay, other cells stay -/
theorem pz_put (hexec : p.tables.exec = Jvm.exec) (hb : c.code = cc) {own ref C : String} {T : u_T} {N ci index : Nat} {Ts : List Cond} (hts : ∀ w ∈ Ts, w.before args s = true) (hin : ∀ w ∈ u_ws C T N, w ∈ Ts) (ty0 : Nat → FieldType) (hty : ∀ k, k < N → parseFieldDescriptor (T k).2.2.1 = some (ty0 k)) (hnm : ∀ a, a < N → ∀ b, b < N → a ≠ b → (T a).2.1 ≠ (T b).2.1) (hown : s.vm.findClass own = some m.cls) (hK : va_K D cl tys s) (hP : va_P D cl ws H) (q0 : Nat) {fs : List Value} (he : ws[q0]? = some (a, .inr (ci, fs))) (hc : cl[ci]? = some (C, T, N)) (k : Nat) (hk : k < N) (hlink : (Cond.fieldLink own index ref (T k).2.1 (T k).2.2.1).before args s = true) (hsame : ∀ x, s.fieldFound? (T k).1 (T k).2.1 (T k).2.2.1 = some x → s.fieldFound? ref (T k).2.1 (T k).2.2.1 = some x) (hfin : (T k).2.2.2 = false) {ty : FieldType} {v : Value} (hd : parseFieldDescriptor (T k).2.2.1 = some ty) (hn : narrow ty v = v) (hfit : fits ty v = true) (hl : k < fs.length)
    (hdg : decode cc pc = .ok (.putfield index, 3)) (kk : ∀ (H1 : Heap) (i : Nat), va_at D cl (a, .inr (ci, fs.set k v)) H1 → H1.size = H.size → (∀ q : Nat, q ≠ a → H1[q]? = H[q]?) → W p l e R s m args below meth c H1 (locs ++ [⟨a, i⟩]) cells slots Q (F0 m (pc + 3) ls rest)) : W p l e R s m args below meth c H locs cells slots Q (F0 m pc ls (v :: .ref a :: rest)) := by
  have hap := va_apart (own := own) hts hin ty0 hty hnm hK hc
  obtain ⟨r, h1, cell, q1, q2, q3, q4⟩ := hP q0 _ he
  have hr : r = (C, T, N) := Option.some.inj (h1.symm.trans hc)
  subst hr
  obtain ⟨hS, hfc, kC, hkC, hkind⟩ := hK.1 ci _ hc
  obtain ⟨cf, kf, fi, f, hi, hsl⟩ := hS k hk
  have hlay := hts _ (hin _ (u_in_lay hk))
  unfold u_lay at hlay
  rw [if_neg (by rw [hfin]; decide)] at hlay
  have hst := (u_facts hfc hkC (u_lays hts hin hk) hi).1
  have h6 := u_store hfc hkC hkind hlay hi hd hn hfit
  refine W.putK hexec hb (f := f) ⟨hown, hlink, ⟨_, _, _, hsame _ hi⟩, hst⟩ (by rw [q2]; exact h6) q1 q3 (by rw [hsl]; exact k2_hasslot (q4 k hk)) rfl rfl hdg fun H' e1 e2 e3 => ?_
  rw [hsl] at e1 ⊢
  exact kk H' _ ⟨_, hc, t_OB.to (V := updV (vp_V fs) k v) ⟨_, e1, q2, q3, t_set q4 hap hk v⟩ (fun j _ => vp_updV_set hl v j)⟩ e2 e3
theorem pz_putF (hexec : p.tables.exec = Jvm.exec) (hb : c.code = cc) {own ref C : String} {T : u_T} {N ci index : Nat} {Ts : List Cond} (hts : ∀ w ∈ Ts, w.before args s = true) (hin : ∀ w ∈ u_ws C T N, w ∈ Ts) (ty0 : Nat → FieldType) (hty : ∀ k, k < N → parseFieldDescriptor (T k).2.2.1 = some (ty0 k)) (hnm : ∀ a, a < N → ∀ b, b < N → a ≠ b → (T a).2.1 ≠ (T b).2.1) (hown : s.vm.findClass own = some m.cls) (hK : va_K D cl tys s) (hP : va_P D cl ws H) (q0 : Nat) {fs : List Value} (he : ws[q0]? = some (a, .inr (ci, fs))) (hc : cl[ci]? = some (C, T, N)) (k : Nat) (hk : k < N) (hlink : (Cond.fieldLink own index ref (T k).2.1 (T k).2.2.1).before args s = true) (hsame : ∀ x, s.fieldFound? (T k).1 (T k).2.1 (T k).2.2.1 = some x → s.fieldFound? ref (T k).2.1 (T k).2.2.1 = some x) (hfin : (T k).2.2.2 = true) (hin2 : meth.name = "<init>") (hdecl : (T k).1 = own) {ty : FieldType} {v : Value} (hd : parseFieldDescriptor (T k).2.2.1 = some ty) (hn : narrow ty v = v) (hfit : fits ty v = true) (hl : k < fs.length)
    (hdg : decode cc pc = .ok (.putfield index, 3)) (kk : ∀ (H1 : Heap) (i : Nat), va_at D cl (a, .inr (ci, fs.set k v)) H1 → H1.size = H.size → (∀ q : Nat, q ≠ a → H1[q]? = H[q]?) → W p l e R s m args below meth c H1 (locs ++ [⟨a, i⟩]) cells slots Q (F0 m (pc + 3) ls rest)) : W p l e R s m args below meth c H locs cells slots Q (F0 m pc ls (v :: .ref a :: rest)) := by
  have hap := va_apart (own := own) hts hin ty0 hty hnm hK hc
  obtain ⟨r, h1, cell, q1, q2, q3, q4⟩ := hP q0 _ he
  have hr : r = (C, T, N) := Option.some.inj (h1.symm.trans hc)
  subst hr
  obtain ⟨hS, hfc, kC, hkC, hkind⟩ := hK.1 ci _ hc
  obtain ⟨cf, kf, fi, f, hi, hsl⟩ := hS k hk
  have hlay := hts _ (hin _ (u_in_lay hk))
  unfold u_lay at hlay
  rw [if_pos hfin] at hlay
  have hst := (u_facts hfc hkC (u_lays hts hin hk) hi).1
  have hcf : m.cls = cf := by
    obtain ⟨_, _, c', _, _, _, -, -, hf', -, -, -, hown2, -⟩ := Cond.laysFinal_spec hlay
    have e1 : c' = cf := by have := hi.symm.trans hf'; simp at this; exact this.1.symm
    rw [hdecl] at hown2
    rw [← e1]; exact Option.some.inj (hown.symm.trans hown2)
  have h6 := u_fits hfc hkC hkind (Or.inr hlay) hi hd hn hfit
  refine W.putFinK hexec hb hown hlink (hsame _ hi) hst hcf hin2 (by rw [q2]; exact h6) q1 q3 (by rw [hsl]; exact k2_hasslot (q4 k hk)) rfl rfl hdg fun H' e1 e2 e3 => ?_
  rw [hsl] at e1 ⊢
  exact kk H' _ ⟨_, hc, t_OB.to (V := updV (vp_V fs) k v) ⟨_, e1, q2, q3, t_set q4 hap hk v⟩ (fun j _ => vp_updV_set hl v j)⟩ e2 e3
/-- int arrays of one length are copied whole -/
theorem pz_copy {cc : ByteArray} (hexec : p.tables.exec = Jvm.exec) (hb : c.code = cc) (hml : c.maxLocals = ls.size) {own : String} {index : Nat} (hown : s.vm.findClass own = some m.cls) (hlink : (Cond.methodLink own index arraycopyName).before args s = true) (hnat : (Cond.native arraycopyName).before args s = true) (hstat : (Cond.static arraycopyName).before args s = true) (hini : (Cond.initialized "java/lang/System").before args s = true)
    (hK : va_K D cl tys s) (hP : va_P D cl ws H) (q0 q1 t0 : Nat) {a0 : Nat} {c0 : ClassId} {n0 : Nat} {f g : Nat → Int32} (ha0 : ws[q0]? = some (a0, .inl (c0, n0, .inl f))) (ha1 : ws[q1]? = some (a, .inl (c0, n0, .inl g))) (ht0 : tys[t0]? = some (c0, .int))
    {n : Int32} (h3 : ¬ n < 0) (h4 : n.toNatClampNeg = n0)
    (hframes : 1 ≤ R.frames) (hlocals : (rest.map fun v => v.category).sum + (nativeFrameWords "java/lang/System" "arraycopy" 5 + 11) ≤ R.locals) (hdg : decode cc pc = .ok (.invokestatic index, 3))
    (kk : ∀ (H1 : Heap) (L : List Loc), H1[a]? = some (vp_cell c0 (n0, .inl (va_cpy f g 0 0 n0))) → H1.size = H.size → (∀ q : Nat, q ≠ a → H1[q]? = H[q]?) → (∀ q ∈ L, q.base = a) → W p l e R s m args below meth c H1 (locs ++ L) cells slots Q (F0 m (pc + 3) ls rest)) : W p l e R s m args below meth c H locs cells slots Q (F0 m pc ls (.int n :: .int 0 :: .ref a :: .int 0 :: .ref a0 :: rest)) := by
  subst h4
  have nn : ∀ z : Int32, ¬ z < 0 → z.toInt = (z.toNatClampNeg : Int) := by
    intro z hz
    have hz0 : (0 : Int) ≤ z.toInt := by
      have := Int32.not_lt.mp hz
      simpa using Int32.le_iff_toInt_le.mp this
    show z.toInt = ((z.toInt.toNat : Nat) : Int)
    omega
  have z0 : (0 : Int32).toNatClampNeg = 0 := by decide
  have h1 : ¬ (0 : Int32) < 0 := by decide
  intro T hT X
  have hc0 : H[a0]? = some (vp_cell c0 (n.toNatClampNeg, .inl f)) := hP q0 _ ha0
  have hc1 : H[a]? = some (vp_cell c0 (n.toNatClampNeg, .inl g)) := hP q1 _ ha1
  obtain ⟨-, k0, hk0, cm0, hkk0⟩ := (hK.2 t0 _ ht0).1 n.toNatClampNeg (fun j => .int (f j))
  obtain ⟨-, k1, hk1, cm1, hkk1⟩ := (hK.2 t0 _ ht0).1 n.toNatClampNeg (fun j => .int (g j))
  obtain ⟨vm', X', step⟩ := X.arraycopy hexec hown hlink hnat hstat hini (src := a0) (dst := a) (cs := vp_cell c0 (n.toNatClampNeg, .inl f)) (cd := vp_cell c0 (n.toNatClampNeg, .inl g)) (srcPos := 0) (destPos := 0) (n := n) (by rw [hT]; exact hc0) (by rw [hT]; exact hc1)
    (fun _ h => by cases h) (fun _ h => by cases h) (fun h => by cases h) (fun h => by cases h) hk0 hk1 hkk0 hkk1 (by simp [refKind]) h1 h1 h3
    (by rw [nn 0 h1, nn n h3, z0]; show ¬ _ > ((arrV c0 n.toNatClampNeg (fun j => .int (f j))).slots.size : Int); rw [arrV_size]; omega)
    (by rw [nn 0 h1, nn n h3, z0]; show ¬ _ > ((arrV c0 n.toNatClampNeg (fun j => .int (g j))).slots.size : Int); rw [arrV_size]; omega)
    (fun vm₁ _ i hi => by
      have e : (vp_cell c0 (n.toNatClampNeg, .inl f)).slots.getD ((0 : Int32).toNatClampNeg + i) .null = .int (f ((0 : Int32).toNatClampNeg + i)) := by
        show (arrV c0 n.toNatClampNeg (fun j => .int (f j))).slots.getD _ _ = _
        rw [Array.getD_eq_getD_getElem?, arrV_read _ _ (by omega)]
        rfl
      refine ⟨?_, ?_⟩
      · rw [e]
        rfl
      · rw [e]
        exact trivial)
    (g := F0 m pc ls (.int n :: .int 0 :: .ref a :: .int 0 :: .ref a0 :: rest)) rfl (by rw [hml]) (rest := rest) rfl (by rw [hb]; exact hdg) hframes (by show 2 * 0 + _ + _ ≤ _; omega)
  have e1 : copied (vp_cell c0 (n.toNatClampNeg, .inl f)) (vp_cell c0 (n.toNatClampNeg, .inl g)) 0 0 n = vp_cell c0 (n.toNatClampNeg, .inl (va_cpy f g (0 : Int32).toNatClampNeg (0 : Int32).toNatClampNeg n.toNatClampNeg)) := va_copied (fun z => .int z) c0 c0 f g (by omega)
  rw [e1] at X' step
  rw [z0] at X' step
  have hl : a < H.size := (Array.getElem?_eq_some_iff.mp hc1).1
  have hheap : ((T.setVm vm').setCell a (vp_cell c0 (n.toNatClampNeg, .inl (va_cpy f g 0 0 n.toNatClampNeg)))).heap = H.setIfInBounds a (vp_cell c0 (n.toNatClampNeg, .inl (va_cpy f g 0 0 n.toNatClampNeg))) := by rw [← hT]; rfl
  have oq : ∀ q : Nat, q ≠ a → (H.setIfInBounds a (vp_cell c0 (n.toNatClampNeg, .inl (va_cpy f g 0 0 n.toNatClampNeg))))[q]? = H[q]? := fun q hq => by simp [Array.getElem?_setIfInBounds, Ne.symm hq]
  obtain ⟨t, a1, b1⟩ := kk _ _ (by simp [Array.getElem?_setIfInBounds, hl]) (by simp) oq (fun q hq => by
      obtain ⟨z, -, hz⟩ := List.mem_map.mp hq
      rw [← hz]) _ hheap X'
  exact ⟨t, step t a1, b1⟩
end PZ
def oPI (ci k n : Nat) : aO := fun lv st h => match st with
  | .inl (.int x) :: .inl (.ref a) :: r => match h[a]? with
    | some (.inr (.inr (.inr (cj, fs)))) => match Nat.beq cj ci with
      | true => match fs[k]? with
        | some _ => setF fs k (.int x) (fun fs' => setF h a (.inr (.inr (.inr (cj, fs')))) (fun h' => nx n lv r h'))
        | none => none
      | false => none
    | _ => none
  | _ => none
theorem r_putI {M : aM} {pc ci idx : Nat} {C : String} {T : u_T} {N : Nat} {ty : Nat → FieldType} (hd : decode M.2.1 pc = .ok (.putfield idx, 3)) (cd : CD ci C T N ty) (k : Nat) (hk : k < N) (hl : Cond.fieldLink M.1.cls idx C (T k).2.1 (T k).2.2.1 ∈ tg) (h1 : (T k).1 = C) (h2 : (T k).2.2.2 = false) (h3 : parseFieldDescriptor (T k).2.2.1 = some .int) : Ok M pc (oPI ci k (pc + 3)) := by
  intro G d p l e R s m args below meth c hF lv st h x hx a b
  unfold oPI at hx
  split at hx
  · split at hx
    · rename_i ha
      split at hx
      · rename_i hb
        have hb := Nat.eq_of_beq_eq_true hb
        subst hb
        split at hx
        · rename_i hv
          rw [setF_eq, setF_eq] at hx
          cases hx
          intro Q _ _ kk H locs ls hP hS hll
          refine pz_put hF.1.1 hF.1.2.1 hF.1.2.2.2.2 cd.2.1 ty cd.2.2.1 cd.2.2.2.1 hF.1.2.2.2.1 hF.2.2.1.1 hP.1 _ (hp_at ha) cd.1 k hk (hF.1.2.2.2.2 _ hl) (fun x hx => by rw [h1] at hx; exact hx) h2 (v := .int _) h3 rfl rfl (by rw [List.length_map]; exact (List.getElem?_eq_some_iff.mp hv).1) hd (fun H1 i hc z oq => ?_)
          refine kk H1 _ ls (hp_set hP ha z oq ?_) (hS.put z oq (Nat.le_add_right _ _)) hll
          show va_at _ _ (_, Sum.inr (_, (List.set _ _ _).map (tv G.1))) _
          rw [List.map_set]
          exact hc
        · cases hx
      · cases hx
    · cases hx
  · cases hx
def oPR (ci k n : Nat) : aO := fun lv st h => match st with
  | .inl (.ref x) :: .inl (.ref a) :: r => match h[a]? with
    | some (.inr (.inr (.inr (cj, fs)))) => match Nat.beq cj ci with
      | true => match fs[k]? with
        | some _ => setF fs k (.ref x) (fun fs' => setF h a (.inr (.inr (.inr (cj, fs')))) (fun h' => nx n lv r h'))
        | none => none
      | false => none
    | _ => none
  | _ => none
theorem r_putR {M : aM} {pc ci idx : Nat} {C : String} {T : u_T} {N : Nat} {ty : Nat → FieldType} (hd : decode M.2.1 pc = .ok (.putfield idx, 3)) (cd : CD ci C T N ty) (k : Nat) (hk : k < N) (hl : Cond.fieldLink M.1.cls idx C (T k).2.1 (T k).2.2.1 ∈ tg) (h1 : (T k).1 = C) (h2 : (T k).2.2.2 = true) (h3 : M.1.name = "<init>") (h4 : C = M.1.cls) (tq : FieldType) (h5 : parseFieldDescriptor (T k).2.2.1 = some tq) (h6 : ∀ a : Nat, narrow tq (.ref a) = .ref a ∧ fits tq (.ref a) = true) : Ok M pc (oPR ci k (pc + 3)) := by
  intro G d p l e R s m args below meth c hF lv st h x hx a b
  unfold oPR at hx
  split at hx
  · split at hx
    · rename_i ha
      split at hx
      · rename_i hb
        have hb := Nat.eq_of_beq_eq_true hb
        subst hb
        split at hx
        · rename_i hv
          rw [setF_eq, setF_eq] at hx
          cases hx
          intro Q _ _ kk H locs ls hP hS hll
          refine pz_putF hF.1.1 hF.1.2.1 hF.1.2.2.2.2 cd.2.1 ty cd.2.2.1 cd.2.2.2.1 hF.1.2.2.2.1 hF.2.2.1.1 hP.1 _ (hp_at ha) cd.1 k hk (hF.1.2.2.2.2 _ hl) (fun x hx => by rw [h1] at hx; exact hx) h2 (hF.2.1.2.2.1 h3) (by rw [h1, h4]) (v := .ref _) h5 (h6 _).1 (h6 _).2 (by rw [List.length_map]; exact (List.getElem?_eq_some_iff.mp hv).1) hd (fun H1 i hc z oq => ?_)
          refine kk H1 _ ls (hp_set hP ha z oq ?_) (hS.put z oq (Nat.le_add_right _ _)) hll
          show va_at _ _ (_, Sum.inr (_, (List.set _ _ _).map (tv G.1))) _
          rw [List.map_set]
          exact hc
        · cases hx
      · cases hx
    · cases hx
  · cases hx
