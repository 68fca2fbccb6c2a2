def catS (r : List aV) : Nat := (r.map ac).sum
theorem catS_tv (G : aG) (r : List aV) : ((r.map (tx G)).map fun v => v.category).sum = catS r := by
  unfold catS
  rw [List.map_map]
  congr 1
  apply List.map_congr_left
  intro v _
  exact tx_cat G v
/-- Object's own constructor -/
def oOb (n : Nat) : aO := fun lv st h => match st with
  | .inl (.ref _) :: r => match Nat.ble (catS r) 8 with
    | true => nx n lv r h
    | false => none
  | _ => none
theorem r_objInit {M : aM} {pc idx : Nat} (hd : decode M.2.1 pc = .ok (.invokespecial idx, 3)) (hl : Cond.methodLink M.1.cls idx Lib.objectInit ∈ tg) (h1 : Cond.instanceMethod Lib.objectInit ∈ tg) (h2 : Cond.code Lib.objectInit ⟨#[0xb1]⟩ 1 none ∈ tg) : Ok M pc (oOb (pc + 3)) := by
  intro G d p l e R s m args below meth c hF lv st h x hx a b
  unfold oOb at hx
  split at hx
  · split at hx
    · rename_i hb
      have hb := Nat.le_of_ble_eq_true hb
      cases hx
      intro Q _ _ kk H locs ls hP hS hll
      have hR := hF.2.2.2.2
      refine W.objInit hF.1.1 hF.1.2.1 hF.1.2.2.2.1 (hF.1.2.2.2.2 _ hl) (hF.1.2.2.2.2 _ h1) (hF.1.2.2.2.2 _ h2) rfl (by rw [hF.1.2.2.1]; exact hll.1) rfl hd (by omega) ?_ (kk H locs ls hP hS hll)
      show 2 * 0 + ((List.map (tx G) _).map _).sum + 12 ≤ _
      rw [catS_tv]
      omega
    · cases hx
  · cases hx
/-- System.arraycopy of whole int arrays of one length -/
def oCp (n : Nat) : aO := fun lv st h => match st with
  | .inl (.int z) :: .inl (.int y) :: .inl (.ref a1) :: .inl (.int w) :: .inl (.ref a0) :: r => match decide (y = 0), decide (w = 0), decide (z < 0), Nat.ble (catS r) 8 with
    | true, true, false, true => match h[a0]?, h[a1]? with
      | some (.inl l0), some (.inl l1) => match Nat.beq l0.length z.toNatClampNeg, Nat.beq l1.length z.toNatClampNeg with
        | true, true => setF h a1 (.inl l0) (fun h' => nx n lv r h')
        | _, _ => none
      | _, _ => none
    | _, _, _, _ => none
  | _ => none
theorem r_copy {M : aM} {pc idx : Nat} (hd : decode M.2.1 pc = .ok (.invokestatic idx, 3)) (hl : Cond.methodLink M.1.cls idx arraycopyName ∈ tg) (h1 : Cond.native arraycopyName ∈ tg) (h2 : Cond.static arraycopyName ∈ tg) (h3 : Cond.initialized "java/lang/System" ∈ tg) : Ok M pc (oCp (pc + 3)) := by
  intro G d p l e R s m args below meth c hF lv st h x hx a b
  unfold oCp at hx
  split at hx
  · split at hx
    · rename_i hy hw hz hb
      have hb := Nat.le_of_ble_eq_true hb
      have hy := of_decide_eq_true hy
      have hw := of_decide_eq_true hw
      have hz := of_decide_eq_false hz
      subst hy
      subst hw
      split at hx
      · rename_i l0 l1 ha0 ha1
        split at hx
        · rename_i e0 e1
          have e0 := Nat.eq_of_beq_eq_true e0
          have e1 := Nat.eq_of_beq_eq_true e1
          rw [setF_eq] at hx
          cases hx
          intro Q _ _ kk H locs ls hP hS hll
          have hR := hF.2.2.2.2
          have g1 := hp_at (G := G) ha1
          have g0 := hp_at (G := G) ha0
          have hlen : l1.length = l0.length := e1.trans e0.symm
          have g1' := g1
          rw [show te G (.inl l1) = (Sum.inl (G.2.2.1, l0.length, .inl (fun j => l1.getD j 0)) : va_E) from by rw [← hlen]; rfl] at g1'
          refine pz_copy hF.1.1 hF.1.2.1 (by rw [hF.1.2.2.1]; exact hll.1.symm) hF.1.2.2.2.1 (hF.1.2.2.2.2 _ hl) (hF.1.2.2.2.2 _ h1) (hF.1.2.2.2.2 _ h2) (hF.1.2.2.2.2 _ h3) hF.2.2.1.1 hP.1 _ _ 0 g0 g1' rfl hz e0.symm (by omega) ?_ hd (fun H1 L hc z oq hL => ?_)
          · rw [catS_tv]
            have : nativeFrameWords "java/lang/System" "arraycopy" 5 ≤ 7 := by decide
            omega
          · refine kk H1 _ ls (hp_set hP ha1 z oq ?_) ⟨by rw [z]; exact hS.1, fun q g1 g2 => ?_, fun q hq => ?_⟩ hll
            · show H1[_]? = some (vp_cell _ (l0.length, .inl (fun q => l0.getD q 0)))
              rw [hc]
              congr 4
              funext q
              unfold va_cpy
              by_cases hq : q < l0.length
              · simp [hq]
              · have g2 : l0.getD q 0 = 0 := by rw [List.getD_eq_getElem?_getD, List.getElem?_eq_none (by omega)]; rfl
                have g3 : l1.getD q 0 = 0 := by rw [List.getD_eq_getElem?_getD, List.getElem?_eq_none (by omega)]; rfl
                simp only [List.getD_eq_getElem?_getD] at g2 g3
                simp [hq, g2, g3]
            · rw [oq q (fun e => g2 (by rw [e]; exact Nat.le_add_right _ _))]
              exact hS.2.1 q g1 g2
            · rcases List.mem_append.mp hq with h | h
              · exact hS.2.2 q h
              · rw [hL q h]
                exact Nat.le_add_right _ _
        · cases hx
      · cases hx
    · cases hx
  · cases hx
/-- Math.min, Math.max of ints -/
def oMn (n : Nat) : aO := fun lv st h => match st with
  | .inl (.int y) :: .inl (.int x) :: r => match Nat.ble (catS r) 8 with
    | true => frI (if y < x then y else x) (fun z => nx n lv (.inl (.int z) :: r) h)
    | false => none
  | _ => none
def oMx (n : Nat) : aO := fun lv st h => match st with
  | .inl (.int y) :: .inl (.int x) :: r => match Nat.ble (catS r) 8 with
    | true => frI (if x < y then y else x) (fun z => nx n lv (.inl (.int z) :: r) h)
    | false => none
  | _ => none
theorem r_mmin {M : aM} {pc idx : Nat} (hd : decode M.2.1 pc = .ok (.invokestatic idx, 3)) (hl : Cond.methodLink M.1.cls idx Lib.Math.min.name ∈ tg) (h1 : Cond.static Lib.Math.min.name ∈ tg) (h2 : Cond.initialized "java/lang/Math" ∈ tg) (h3 : Cond.code Lib.Math.min.name Lib.Math.min.code 2 (some .int) ∈ tg) : Ok M pc (oMn (pc + 3)) := by
  intro G d p l e R s m args below meth c hF lv st h x hx a b
  unfold oMn at hx
  split at hx
  · split at hx
    · rename_i hb
      have hb := Nat.le_of_ble_eq_true hb
      rw [frI_eq] at hx
      cases hx
      intro Q g1 g2 kk H locs ls hP hS hll
      have hR := hF.2.2.2.2
      exact va_mmin hF.1.1 hF.1.2.1 (by rw [hF.1.2.2.1]; exact hll.1.symm) hF.1.2.2.2.1 (hF.1.2.2.2.2 _ hl) (hF.1.2.2.2.2 _ h1) (hF.1.2.2.2.2 _ h2) (hF.1.2.2.2.2 _ h3) (by omega) (by rw [catS_tv]; omega) g1 g2 hd (kk H locs ls hP hS hll)
    · cases hx
  · cases hx
theorem r_mmax {M : aM} {pc idx : Nat} (hd : decode M.2.1 pc = .ok (.invokestatic idx, 3)) (hl : Cond.methodLink M.1.cls idx Lib.Math.max.name ∈ tg) (h1 : Cond.static Lib.Math.max.name ∈ tg) (h2 : Cond.initialized "java/lang/Math" ∈ tg) (h3 : Cond.code Lib.Math.max.name Lib.Math.max.code 2 (some .int) ∈ tg) : Ok M pc (oMx (pc + 3)) := by
  intro G d p l e R s m args below meth c hF lv st h x hx a b
  unfold oMx at hx
  split at hx
  · split at hx
    · rename_i hb
      have hb := Nat.le_of_ble_eq_true hb
      rw [frI_eq] at hx
      cases hx
      intro Q g1 g2 kk H locs ls hP hS hll
      have hR := hF.2.2.2.2
      exact va_mmax hF.1.1 hF.1.2.1 (by rw [hF.1.2.2.1]; exact hll.1.symm) hF.1.2.2.2.1 (hF.1.2.2.2.2 _ hl) (hF.1.2.2.2.2 _ h1) (hF.1.2.2.2.2 _ h2) (hF.1.2.2.2.2 _ h3) (by omega) (by rw [catS_tv]; omega) g1 g2 hd (kk H locs ls hP hS hll)
    · cases hx
  · cases hx
/-- behind a call -/
theorem run_go {G : aG} {nL : Nat} {p : Program} {l : Launch} {e : Env} {R : Room} {s : State} {m : MethodId} {args : Array Value} {below : List Frame} {meth : Method} {c : Code} {Q : State → Prop} {pc : Nat} {lv : aL} {st0 : List Value} {rest : List aV} {h' : aH} {H : Heap} {locs : List Loc} {ls : Array Slot} {a b mc ms : Nat} {r : Option Value} {av : Array Value}
    (hr : va_Run p l e R s m args below meth c H locs a b mc ms (F0 m pc ls st0) (rest.map (tx G)) (Qx G r h' av) (fun q => G.1 ≤ q)) (hS : va_S (fun q : Nat => G.1 ≤ q) s.heap H locs) (hl : lv_has ls nL (tl G lv)) (k : Wc G nL p l e R s m args below meth c Q (pc + 3) lv (rl r ++ rest) h' (a + mc) (b + ms)) : W p l e R s m args below meth c H locs a b Q (F0 m pc ls st0) := by
  intro T hT X
  obtain ⟨v, st₀, t, T', L, h0, X', hL, e1, e2, ⟨hv, hb, hf⟩, st⟩ := hr T hT X
  have hv : v = r.map (tv G.1) := by injection hv
  subst hv
  have hs : (r.map (tv G.1)).toList ++ rest.map (tx G) = (rl r ++ rest).map (tx G) := by cases r <;> simp [rl, tx]
  have hz : H.size ≤ t.heap.size := by rw [← h0]; exact hf.1
  obtain ⟨t2, a1, b1⟩ := k T'.heap (locs ++ L) ls (by rw [e1]; exact hb) ⟨by rw [e1]; exact Nat.le_trans hS.1 hz, fun q g1 g2 => by
      rw [e1, hf.2 q (by rw [h0]; exact Nat.lt_of_lt_of_le g1 hS.1) g2, h0]
      exact hS.2.1 q g1 g2, fun q hq => by
      rcases List.mem_append.mp hq with h | h
      · exact hS.2.2 q h
      · exact hL q h⟩ hl T' rfl X'
  rw [← hs] at a1
  exact ⟨t2, st t2 a1, b1⟩
/-- a method that is called: its words -/
def CMb (mid n : Nat) : Prop := Cond.initialized (MD mid).1.1.cls ∈ tg ∧ Cond.code (MD mid).1.1 (MD mid).1.2.1 (MD mid).1.2.2.1 (MD mid).1.2.2.2 ∈ tg ∧ ((MD mid).1.1.cls ≠ "java/lang/invoke/MethodHandle" ∧ (MD mid).1.1.cls ≠ "java/lang/invoke/VarHandle" ∧ (parseMethodDescriptor (MD mid).1.1.desc).map (fun d => d.parameters.length) = some n) ∧ (MD mid).1.2.2.1 ≤ 21
def CMV (mid n ci : Nat) (T : u_T) (N : Nat) : Prop := CMb mid n ∧ vwCl[ci]? = some ((MD mid).1.1.cls, T, N) ∧ Cond.instanceMethod (MD mid).1.1 ∈ tg ∧ Cond.selects (MD mid).1.1.cls (MD mid).1.1 (MD mid).1.1 ∈ tg
def CMI (mid n : Nat) : Prop := CMb mid n ∧ Cond.instanceMethod (MD mid).1.1 ∈ tg ∧ (MD mid).1.1.name = "<init>" ∧ (MD mid).1.2.2.2 = none
def CMS (mid n : Nat) : Prop := CMb mid n ∧ Cond.static (MD mid).1.1 ∈ tg
theorem cm_code {mid n : Nat} (h : CMb mid n) : ∀ w ∈ (Cond.code (MD mid).1.1 (MD mid).1.2.1 (MD mid).1.2.2.1 (MD mid).1.2.2.2 :: tg), w ∈ tg := fun w hw => by
  rcases List.mem_cons.mp hw with rfl | hw
  · exact h.2.1
  · exact hw
def oCV (ci mid n : Nat) : aO := fun _ st h => match popN n st [] with
  | some (as, .inl (.ref b) :: r) => match h[b]? with
    | some (.inr (.inr (.inr (cj, _)))) => match Nat.beq cj ci, Nat.ble (catS r) 8 with
      | true, true => some (.inr (.inl (mid, .inl (.ref b) :: as, r)))
      | _, _ => none
    | _ => none
  | _ => none
def oCI (mid n : Nat) : aO := fun _ st _ => match popN n st [] with
  | some (as, .inl (.ref b) :: r) => match Nat.ble (catS r) 8 with
    | true => some (.inr (.inl (mid, .inl (.ref b) :: as, r)))
    | false => none
  | _ => none
def oCS (mid n : Nat) : aO := fun _ st _ => match popN n st [] with
  | some (as, r) => match Nat.ble (catS r) 8 with
    | true => some (.inr (.inl (mid, as, r)))
    | false => none
  | _ => none
theorem pop_stack {G : aG} {n : Nat} {st as r : List aV} (h : popN n st [] = some (as, r)) : st.map (tx G) = (as.map (tx G)).reverse ++ r.map (tx G) ∧ (as.map (tx G)).length = n := by
  obtain ⟨h1, h2⟩ := popN_spec n st [] as r h
  simp only [List.reverse_nil, List.nil_append] at h1
  refine ⟨by rw [h1, List.map_append, List.map_reverse], by rw [List.length_map, h2]; simp⟩
theorem r_callV {M : aM} {pc idx mid n ci : Nat} {T : u_T} {N : Nat} (hd : decode M.2.1 pc = .ok (.invokevirtual idx, 3)) (hl : Cond.methodLink M.1.cls idx (MD mid).1.1 ∈ tg) (cm : CMV mid n ci T N) : Ok M pc (oCV ci mid n) := by
  intro G d p l e R s m args below meth c hF lv st h x hx a b
  unfold oCV at hx
  split at hx
  · rename_i as b0 r hp
    split at hx
    · rename_i hb0
      split at hx
      · rename_i hci hb
        have hb := Nat.le_of_ble_eq_true hb
        have hci := Nat.eq_of_beq_eq_true hci
        subst hci
        cases hx
        intro Q rv h' hM h1 h2 kk H locs ls hP hS hll
        obtain ⟨q1, q2⟩ := pop_stack (G := G) hp
        have hR := hF.2.2.2.2
        have hcm := cm.1.2.2.2
        have cw := cwV (R := R) (mc := (MD mid).2.1) (ms := (MD mid).2.2) (rm := { frames := d, cells := (MD mid).2.1, slots := (MD mid).2.2, locals := 40 * d }) (C := (MD mid).1.1.cls) (own := M.1.cls) (index := idx) n hF.1.2.2.2.2 (ws := (Cond.code (MD mid).1.1 (MD mid).1.2.1 (MD mid).1.2.2.1 (MD mid).1.2.2.2 :: tg)) (tg_good (fun w hw => by
          unfold wsV at hw
          rcases List.mem_append.mp hw with hw | hw
          · simp only [List.mem_cons, List.not_mem_nil, or_false] at hw
            rcases hw with rfl | rfl | rfl | rfl
            · exact hl
            · exact cm.2.2.1
            · exact cm.2.2.2
            · exact cm.1.1
          · exact cm_code cm.1 w hw)) rfl rfl rfl ⟨rfl, cm.1.2.2.1⟩ ⟨hR.1, by show 8 + (_ + 11) + 40 * d ≤ _; omega⟩
        refine run_go (va_runV (C := (MD mid).1.1.cls) (As := as.map (tx G)) (rest := r.map (tx G)) hF.1 hM cw ⟨Pcx.blind, va_recv hF.2.2.1.1 hP.1 cm.2.1 (hp_at hb0), fun U hU hW => ⟨rfl, by rw [hU]; exact hP, hF.2.2.1.warm hW⟩⟩ rfl q2 hll.1 (by exact q1) (lv_room (by rw [catS_tv]; exact hb)) hd ⟨h1, h2⟩) hS hll kk
      · cases hx
    · cases hx
  · cases hx
theorem r_callI {M : aM} {pc idx mid n : Nat} (hd : decode M.2.1 pc = .ok (.invokespecial idx, 3)) (hl : Cond.methodLink M.1.cls idx (MD mid).1.1 ∈ tg) (cm : CMI mid n) : Ok M pc (oCI mid n) := by
  intro G d p l e R s m args below meth c hF lv st h x hx a b
  unfold oCI at hx
  split at hx
  · rename_i as b0 r hp
    split at hx
    · rename_i hb
      have hb := Nat.le_of_ble_eq_true hb
      cases hx
      intro Q rv h' hM h1 h2 kk H locs ls hP hS hll
      obtain ⟨q1, q2⟩ := pop_stack (G := G) hp
      have hR := hF.2.2.2.2
      have hcm := cm.1.2.2.2
      have hM' : Met l (MD mid).1.1 (Cond.code (MD mid).1.1 (MD mid).1.2.1 (MD mid).1.2.2.1 none :: tg) { frames := d, cells := (MD mid).2.1, slots := (MD mid).2.2, locals := 40 * d } (Pcx G (.inl (.ref b0) :: as) h) (Qx G rv h') (MD mid).2.1 (MD mid).2.2 (fun q => G.1 ≤ q) := by
        have := hM
        unfold MtE at this
        rw [cm.2.2.2] at this
        exact this
      have cw := cwI (R := R) (mc := (MD mid).2.1) (ms := (MD mid).2.2) (rm := { frames := d, cells := (MD mid).2.1, slots := (MD mid).2.2, locals := 40 * d }) (own := M.1.cls) (index := idx) n hF.1.2.2.2.2 (ws := (Cond.code (MD mid).1.1 (MD mid).1.2.1 (MD mid).1.2.2.1 none :: tg)) (tg_good (fun w hw => by
          have := cm_code cm.1 w
          rw [cm.2.2.2] at this
          exact this hw)) rfl rfl rfl (hF.1.2.2.2.2 _ cm.1.1) (hF.1.2.2.2.2 _ hl) (hF.1.2.2.2.2 _ cm.2.1) cm.2.2.1 cm.1.2.2.1 ⟨hR.1, by show 8 + (_ + 11) + 40 * d ≤ _; omega⟩
      refine run_go (va_runI (As := as.map (tx G)) (rest := r.map (tx G)) hF.1 hM' cw ⟨Pcx.blind, fun U hU hW => ⟨rfl, by rw [hU]; exact hP, hF.2.2.1.warm hW⟩⟩ rfl q2 hll.1 (by exact q1) (lv_room (by rw [catS_tv]; exact hb)) hd ⟨h1, h2⟩) hS hll kk
    · cases hx
  · cases hx
theorem r_callS {M : aM} {pc idx mid n : Nat} (hd : decode M.2.1 pc = .ok (.invokestatic idx, 3)) (hl : Cond.methodLink M.1.cls idx (MD mid).1.1 ∈ tg) (cm : CMS mid n) : Ok M pc (oCS mid n) := by
  intro G d p l e R s m args below meth c hF lv st h x hx a b
  unfold oCS at hx
  split at hx
  · rename_i as r hp
    split at hx
    · rename_i hb
      have hb := Nat.le_of_ble_eq_true hb
      cases hx
      intro Q rv h' hM h1 h2 kk H locs ls hP hS hll
      obtain ⟨q1, q2⟩ := pop_stack (G := G) hp
      have hR := hF.2.2.2.2
      have hcm := cm.1.2.2.2
      have cw := va_cwS (R := R) (mc := (MD mid).2.1) (ms := (MD mid).2.2) (rm := { frames := d, cells := (MD mid).2.1, slots := (MD mid).2.2, locals := 40 * d }) (own := M.1.cls) (index := idx) n hF.1.2.2.2.2 (ws := (Cond.code (MD mid).1.1 (MD mid).1.2.1 (MD mid).1.2.2.1 (MD mid).1.2.2.2 :: tg)) (tg_good (fun w hw => by
          unfold va_wsS at hw
          rcases List.mem_append.mp hw with hw | hw
          · simp only [List.mem_cons, List.not_mem_nil, or_false] at hw
            rcases hw with rfl | rfl | rfl
            · exact hl
            · exact cm.2
            · exact cm.1.1
          · exact cm_code cm.1 w hw)) rfl rfl rfl cm.1.2.2.1 ⟨hR.1, by show 8 + (_ + 11) + 40 * d ≤ _; omega⟩
      refine run_go (va_runS (As := as.map (tx G)) (rest := r.map (tx G)) hF.1 hM cw ⟨Pcx.blind, fun U hU hW => ⟨rfl, by rw [hU]; exact hP, hF.2.2.1.warm hW⟩⟩ rfl q2 hll.1 (by exact q1) (lv_room (by rw [catS_tv]; exact hb)) hd ⟨h1, h2⟩) hS hll kk
    · cases hx
  · cases hx
theorem r_callSN {M : aM} {pc idx mid n : Nat} {host : String} (hd : decode M.2.1 pc = .ok (.invokestatic idx, 3)) (hl : ∀ (G : aG) (U : State), Kx G U → va_Nw (.methodLinkNest M.1.cls idx (MD mid).1.1 host) U) (cm : CMS mid n) : Ok M pc (oCS mid n) := by
  intro G d p l e R s m args below meth c hF lv st h x hx a b
  unfold oCS at hx
  split at hx
  · rename_i as r hp
    split at hx
    · rename_i hb
      have hb := Nat.le_of_ble_eq_true hb
      cases hx
      intro Q rv h' hM h1 h2 kk H locs ls hP hS hll
      obtain ⟨q1, q2⟩ := pop_stack (G := G) hp
      have hR := hF.2.2.2.2
      have hcm := cm.1.2.2.2
      have cw := va_cnB (R := R) (mc := (MD mid).2.1) (ms := (MD mid).2.2) (rm := { frames := d, cells := (MD mid).2.1, slots := (MD mid).2.2, locals := 40 * d }) (own := M.1.cls) (index := idx) (host := host) n hF.1.2.2.2.2 (ws := (Cond.code (MD mid).1.1 (MD mid).1.2.1 (MD mid).1.2.2.1 (MD mid).1.2.2.2 :: tg)) (tg_good (cm_code cm.1)) rfl rfl rfl (hl G s hF.2.2.1) (hF.1.2.2.2.2 _ cm.1.1) cm.1.2.2.1 ⟨hR.1, by show 8 + (_ + 11) + 40 * d ≤ _; omega⟩
      refine run_go (va_runSN (As := as.map (tx G)) (rest := r.map (tx G)) hF.1 hM ⟨cw, hF.1.2.2.2.2 _ cm.2, trivial⟩ ⟨Pcx.blind, fun U hU hW => ⟨rfl, by rw [hU]; exact hP, hF.2.2.1.warm hW⟩⟩ rfl q2 hll.1 (by exact q1) (lv_room (by rw [catS_tv]; exact hb)) hd ⟨h1, h2⟩) hS hll kk
    · cases hx
  · cases hx
theorem r_callIN {M : aM} {pc idx mid n : Nat} {host : String} (hd : decode M.2.1 pc = .ok (.invokespecial idx, 3)) (hl : ∀ (G : aG) (U : State), Kx G U → va_Nw (.methodLinkNest M.1.cls idx (MD mid).1.1 host) U) (cm : CMI mid n) : Ok M pc (oCI mid n) := by
  intro G d p l e R s m args below meth c hF lv st h x hx a b
  unfold oCI at hx
  split at hx
  · rename_i as b0 r hp
    split at hx
    · rename_i hb
      have hb := Nat.le_of_ble_eq_true hb
      cases hx
      intro Q rv h' hM h1 h2 kk H locs ls hP hS hll
      obtain ⟨q1, q2⟩ := pop_stack (G := G) hp
      have hR := hF.2.2.2.2
      have hcm := cm.1.2.2.2
      have hM' : Met l (MD mid).1.1 (Cond.code (MD mid).1.1 (MD mid).1.2.1 (MD mid).1.2.2.1 none :: tg) { frames := d, cells := (MD mid).2.1, slots := (MD mid).2.2, locals := 40 * d } (Pcx G (.inl (.ref b0) :: as) h) (Qx G rv h') (MD mid).2.1 (MD mid).2.2 (fun q => G.1 ≤ q) := by
        have := hM
        unfold MtE at this
        rw [cm.2.2.2] at this
        exact this
      have cw := va_cnB (R := R) (mc := (MD mid).2.1) (ms := (MD mid).2.2) (rm := { frames := d, cells := (MD mid).2.1, slots := (MD mid).2.2, locals := 40 * d }) (own := M.1.cls) (index := idx) (host := host) n hF.1.2.2.2.2 (ws := (Cond.code (MD mid).1.1 (MD mid).1.2.1 (MD mid).1.2.2.1 none :: tg)) (tg_good (fun w hw => by
          have := cm_code cm.1 w
          rw [cm.2.2.2] at this
          exact this hw)) rfl rfl rfl (hl G s hF.2.2.1) (hF.1.2.2.2.2 _ cm.1.1) cm.1.2.2.1 ⟨hR.1, by show 8 + (_ + 11) + 40 * d ≤ _; omega⟩
      refine run_go (va_runIN (As := as.map (tx G)) (rest := r.map (tx G)) hF.1 hM' ⟨cw, cm.2.2.1, hF.1.2.2.2.2 _ cm.2.1⟩ ⟨Pcx.blind, fun U hU hW => ⟨rfl, by rw [hU]; exact hP, hF.2.2.1.warm hW⟩⟩ rfl q2 hll.1 (by exact q1) (lv_room (by rw [catS_tv]; exact hb)) hd ⟨h1, h2⟩) hS hll kk
    · cases hx
  · cases hx
