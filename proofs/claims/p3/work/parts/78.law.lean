/-! THE CLAIM OUT OF ONE WALK OF THE LAW'S BODY -/
def R_law : String := "PostSharesLaw"
def lw_P (b : Addr) (xs : List Int32) (args : Array Value) (s : State) : Prop := args = #[.ref b] ∧ s.IntsAt b xs ∧ xs.length ≤ 2048 ∧ (Jvm.Cond.and given_1 narrow_1).before args s = true
def lw_Q (_ : Array Value) (s : State) (o : Outcome) (t : State) : Prop := o = .returned (some (.int 1)) ∧ Framed s o t [] 600000 7302250
def lw_Z (below : List Frame) (a : Array Value) (s : State) : State → Prop := fun t => ∃ o, t.status = .running ∧ Ended t below o ∧ lw_Q a s o t
/-- the law's own end, with 1 on the stack, nothing written that was there before, its room as the claim has it -/
theorem lw_ret {p : Program} {l : Launch} {e : Env} {s : State} {m : MethodId} {below : List Frame} {meth : Method} {c : Code} {b : Nat} (hx : p.tables.exec = Jvm.exec) (hb : c.code = code) (hr : meth.sig.returnType = ret) (hlocks : meth.locks = false) {pc : Nat} {H : Heap} {ls : Array Slot} (hdg : decode code pc = .ok (.ireturn, 1)) : W p l e room_1 s m #[Value.ref b] below meth c H [] 600000 7302250 (lw_Z below #[Value.ref b] s) (F0 m pc ls [.int 1]) := by
  intro T hT X
  obtain ⟨fs, hret, hrun, hended, hW, hframe⟩ := X.leave (v := some (.int 1)) (hlocks := hlocks) (fun h => by rw [hr] at h; cases h)
  have hmeth' : T.vm.method? m = some meth := X.method'
  refine ⟨T.setFrames fs, ?_, .returned (some (.int 1)), hrun, hended, rfl, ⟨_, rfl⟩, hW, hframe⟩
  jvm_step X.here [X.here.top, hx, hb, hdg, hmeth', hr, ret, narrow_b1]
  (try refine ⟨rfl, ?_⟩); (try refine ⟨rfl, ?_⟩)
  first | (intro acts; rw [hret _ acts rfl rfl rfl]) | rw [hret _ _ rfl rfl rfl]
  exact Steps.refl _
/-- what holds at the law's entry: the machine, the code, the tables' words (any of lw_tbl by 'hts w (by decide +kernel)'), the script of L ints xs at the cell b, what the Statement gives of the start (any of its parts by flat_of_before) -/
def lw_At (p : Program) (s : State) (m : MethodId) (meth : Method) (c : Code) (b L : Nat) (xs : Nat → Int32) : Prop :=
  p.tables.exec = Jvm.exec ∧ c.code = code ∧ meth.sig.returnType = ret ∧ c.maxLocals = 4 ∧ s.vm.findClass R_law = some m.cls ∧ (∀ w ∈ lw_tbl, w.before #[Value.ref b] s = true) ∧ va_X b L xs s s.heap ∧ b < s.heap.size ∧ meth.locks = false ∧ (Jvm.Cond.and given_1 narrow_1).before #[Value.ref b] s = true
/-- the end of the law -/
theorem law_end {Γ : cX} {L : Nat} {xs : Nat → Int32} (C : LX Γ L xs) {b : Nat} (hb : Γ.2.2.2.2.2.2.1 = #[Value.ref b]) (lv : aL) (h : aH) : WX Γ (lw_Z Γ.2.2.2.2.2.2.2.1 #[Value.ref b] Γ.2.2.2.2.1) 779 lv [] h := by
  obtain ⟨G, p, l, e, s, m, args, below, meth, c⟩ := Γ
  have hb : args = #[Value.ref b] := hb
  subst hb
  intro H locs ls hP hS hl
  obtain ⟨hF, hG, -⟩ := C
  refine lv_iconst (v := 1) (n := 1) hF.1.1 hF.1.2.1 (by decide +kernel) (by decide) ?_
  refine va_forget (fun q hq => by rw [← hG]; exact hS.2.2 q hq) ?_
  refine W.widen (show 100 ≤ 600000 from Nat.le_of_ble_eq_true rfl) (show 21436 ≤ 7302250 from Nat.le_of_ble_eq_true rfl) ?_
  exact lw_ret hF.1.1 hF.1.2.1 hF.2.1.1 hF.2.1.2.1 (by decide +kernel)
def lv16 : aL := [(2, .inl (.ref 89)), (1, .inl (.ref 0)), (0, .inr (2, 0))]
theorem wy {Γ : cX} {L : Nat} {xs : Nat → Int32} (C : LX Γ L xs) {Q : State → Prop} {pc pc' : Nat} {lv lv' : aL} {st st' : List aV} {h h1 : aH} {op : aO} {a b a' b' : Nat} (hop : Ok ML pc op) (hx : op lv st h = some (.inl (pc', lv', st', h1, a', b'))) (ha : Nat.ble (a + a') room_1.cells = true) (hb : Nat.ble (b + b') room_1.slots = true) (k : WY Γ Q pc' lv' st' h1 (a + a') (b + b')) : WY Γ Q pc lv st h a b :=
  hop Γ.1 40 Γ.2.1 Γ.2.2.1 Γ.2.2.2.1 room_1 Γ.2.2.2.2.1 Γ.2.2.2.2.2.1 Γ.2.2.2.2.2.2.1 Γ.2.2.2.2.2.2.2.1 Γ.2.2.2.2.2.2.2.2.1 Γ.2.2.2.2.2.2.2.2.2 C.1 lv st h _ hx a b Q (Nat.le_of_ble_eq_true ha) (Nat.le_of_ble_eq_true hb) k
theorem wyc {Γ : cX} {L : Nat} {xs : Nat → Int32} (C : LX Γ L xs) {Q : State → Prop} {pc mid : Nat} {lv : aL} {st as rest : List aV} {h h1 : aH} {op : aO} {r : Option Value} {a b : Nat} (hop : Ok ML pc op) (hx : op lv st h = some (.inr (.inl (mid, as, rest)))) (hr : exM LL 100000 40 mid as h = some (r, h1)) (ha : Nat.ble (a + (MD mid).2.1) room_1.cells = true) (hb : Nat.ble (b + (MD mid).2.2) room_1.slots = true) (k : WY Γ Q (pc + 3) lv (rl r ++ rest) h1 (a + (MD mid).2.1) (b + (MD mid).2.2)) : WY Γ Q pc lv st h a b :=
  hop Γ.1 40 Γ.2.1 Γ.2.2.1 Γ.2.2.2.1 room_1 Γ.2.2.2.2.1 Γ.2.2.2.2.2.1 Γ.2.2.2.2.2.2.1 Γ.2.2.2.2.2.2.2.1 Γ.2.2.2.2.2.2.2.2.1 Γ.2.2.2.2.2.2.2.2.2 C.1 lv st h _ hx a b Q r h1 (exM_sound Γ.2.2.1 Γ.1 C.1.2.1.2.2.2 LL_1 LL_2 LL_3 100000 40 mid as h r h1 hr) (Nat.le_of_ble_eq_true ha) (Nat.le_of_ble_eq_true hb) k
set_option maxRecDepth 100000 in
/-- the law from its entry to its loop: two objects are made -/
theorem law_0 {Γ : cX} {L : Nat} {xs : Nat → Int32} (C : LX Γ L xs) {Q : State → Prop} (K : WX Γ Q 16 lv16 [] hY) : WY Γ Q 0 [(0, .inr (2, 0))] [] [] 0 0 := by
  have e0 : (oNO 4 9 [.null, .null, .null, .null, .null, .int 0, .int 0, .int 0, .int 0] 3) [(0, .inr (2, 0))] [] [] = some (.inl (3, [(0, .inr (2, 0))], [.inl (.ref 0)], [oX], 1, 9)) := rfl
  refine wy C kL_0 e0 rfl rfl ?_
  have e3 : (oS gDu 4) [(0, .inr (2, 0))] [.inl (.ref 0)] [oX] = some (.inl (4, [(0, .inr (2, 0))], [.inl (.ref 0), .inl (.ref 0)], [oX], 0, 0)) := rfl
  refine wy C kL_3 e3 rfl rfl ?_
  have e4 : (oCI 62 0) [(0, .inr (2, 0))] [.inl (.ref 0), .inl (.ref 0)] [oX] = some (.inr (.inl (62, [.inl (.ref 0)], [.inl (.ref 0)]))) := rfl
  refine wyc C kL_4 e4 (isN_eq hX_ok) rfl rfl ?_
  show WY Γ Q 7 [(0, .inr (2, 0))] [.inl (.ref 0)] hX 89 12599
  have e7 : (oSA 1 4 8) [(0, .inr (2, 0))] [.inl (.ref 0)] hX = some (.inl (8, [(1, .inl (.ref 0)), (0, .inr (2, 0))], [], hX, 0, 0)) := rfl
  refine wy C kL_7 e7 rfl rfl ?_
  have e8 : (oNO 5 20 [.null, .int 0, .null, .null, .int 0, .null, .int 0, .int 0, .int 0, .int 0, .int 0, .int 0, .null, .null, .null, .null, .null, .int 0, .null, .int 0] 11) [(1, .inl (.ref 0)), (0, .inr (2, 0))] [] hX = some (.inl (11, [(1, .inl (.ref 0)), (0, .inr (2, 0))], [.inl (.ref 89)], hX ++ [oY], 1, 20)) := by
    unfold oNO
    rw [appF_eq, hX_len]
    rfl
  refine wy C kL_8 e8 rfl rfl ?_
  have y := isN_eq hY_ok
  have y : exM LL 100000 40 95 [.inl (.ref 89)] (hX ++ [oY]) = some (none, hY) := y
  generalize hZ : hX ++ [oY] = hZ' at y
  have e11 : (oS gDu 12) [(1, .inl (.ref 0)), (0, .inr (2, 0))] [.inl (.ref 89)] hZ' = some (.inl (12, [(1, .inl (.ref 0)), (0, .inr (2, 0))], [.inl (.ref 89), .inl (.ref 89)], hZ', 0, 0)) := rfl
  refine wy C kL_11 e11 rfl rfl ?_
  have e12 : (oCI 95 0) [(1, .inl (.ref 0)), (0, .inr (2, 0))] [.inl (.ref 89), .inl (.ref 89)] hZ' = some (.inr (.inl (95, [.inl (.ref 89)], [.inl (.ref 89)]))) := rfl
  refine wyc C kL_12 e12 y rfl rfl ?_
  show WY Γ Q 15 [(1, .inl (.ref 0)), (0, .inr (2, 0))] [.inl (.ref 89)] hY 100 21436
  have e15 : (oSA 2 4 16) [(1, .inl (.ref 0)), (0, .inr (2, 0))] [.inl (.ref 89)] hY = some (.inl (16, lv16, [], hY, 0, 0)) := rfl
  exact wy C kL_15 e15 rfl rfl K
theorem law_16 {Γ : cX} {L : Nat} {xs : Nat → Int32} (C : LX Γ L xs) {Q : State → Prop} {h : aH} (K : WX Γ Q 18 (lvJ 0) [] h) : WX Γ Q 16 lv16 [] h := by
  refine wn C kL_16 (show oS (gKo (.int 0)) 17 lv16 [] h = some (.inl (17, lv16, [.inl (.int 0)], h, 0, 0)) from rfl) ?_
  exact wn C kL_17 (show oSI 3 4 18 lv16 [.inl (.int 0)] h = some (.inl (18, lvJ 0, [], h, 0, 0)) from rfl) K
/-- the variables (no value is one) -/
def rho (i : Nat) : Int32 := if i % 3 = 0 then -1 else 2147483647
theorem rho_big : ∀ B, B < 1000 → nI B ≤ (2147483647 : Int32) := by decide +kernel
theorem rho_ok : Rh rho := by
  refine ⟨fun i => ?_, fun B hB => ?_⟩
  · unfold rho
    rw [if_pos (by omega)]
    decide
  · unfold rho
    rw [if_neg (by omega)]
    exact rho_big B hB
/-- what holds of the tables at the law's entry -/
theorem law_K {p : Program} {s : State} {m : MethodId} {meth : Method} {c : Code} {b L : Nat} {xs : Nat → Int32} (C0 : lw_At p s m meth c b L xs) : ∃ (D : va_G) (cI cJ cO : ClassId), ∀ ρ : Nat → Int32, Kx (s.heap.size, D, cI, cJ, cO, ρ, b) s := by
  obtain ⟨hx, hb, hr, hml, hown, hts, hX, hbl, hlocks, hgv⟩ := C0
  have htg : ∀ w ∈ tg, w.before #[Value.ref b] s = true := fun w hw => hts w (List.mem_filter.mp hw).1
  obtain ⟨c0, i0, k0⟩ := u_known (C := RX0) (T := TX0) (N := 19) (n := 19) htg cd_0.2.1 (htg _ cd_0.2.2.2.2.1)
  obtain ⟨c1, i1, k1⟩ := u_known (C := RX1) (T := TX1) (N := 2) (n := 2) htg cd_1.2.1 (htg _ cd_1.2.2.2.2.1)
  obtain ⟨c2, i2, k2⟩ := u_known (C := RX2) (T := TX2) (N := 3) (n := 3) htg cd_2.2.1 (htg _ cd_2.2.2.2.2.1)
  obtain ⟨c3, i3, k3⟩ := u_known (C := RX3) (T := TX3) (N := 7) (n := 7) htg cd_3.2.1 (htg _ cd_3.2.2.2.2.1)
  obtain ⟨c4, i4, k4⟩ := u_known (C := RX4) (T := TX4) (N := 9) (n := 9) htg cd_4.2.1 (htg _ cd_4.2.2.2.2.1)
  obtain ⟨c5, i5, k5⟩ := u_known (C := RX5) (T := TX5) (N := 20) (n := 20) htg cd_5.2.1 (htg _ cd_5.2.2.2.2.1)
  obtain ⟨cI, kI, mI, fI, gI, qI⟩ := Cond.arrayClass_spec (show (Cond.arrayClass .int).holds #[Value.ref b] s none s [] = true from htg _ w_123)
  obtain ⟨cJ, kJ, mJ, fJ, gJ, qJ⟩ := Cond.arrayClass_spec (show (Cond.arrayClass .long).holds #[Value.ref b] s none s [] = true from htg _ w_243)
  have hover : (Cond.arrayOver (.object RX0)).before #[Value.ref b] s = true := hts _ (List.mem_of_getElem? (i := 217) (by decide +kernel))
  obtain ⟨mO, cO, kO, f1, f2, f3, f4, f5⟩ := Cond.arrayOver_spec (show (Cond.arrayOver (.object RX0)).holds #[Value.ref b] s none s [] = true from hover)
  refine ⟨(fun k => if k = 0 then c0 else if k = 1 then c1 else if k = 2 then c2 else if k = 3 then c3 else if k = 4 then c4 else c5, fun k => if k = 0 then i0 else if k = 1 then i1 else if k = 2 then i2 else if k = 3 then i3 else if k = 4 then i4 else i5), cI, cJ, cO, fun ρ => ⟨⟨?_, ?_⟩, va_AO.of hover, ?_, ?_, ?_, ?_, ?_⟩⟩
  · intro k q hq
    match k, hq with
    | 0, hq => cases hq; exact k0
    | 1, hq => cases hq; exact k1
    | 2, hq => cases hq; exact k2
    | 3, hq => cases hq; exact k3
    | 4, hq => cases hq; exact k4
    | 5, hq => cases hq; exact k5
    | k + 6, hq => simp [vwCl] at hq
  · intro k q hq
    match k, hq with
    | 0, hq => cases hq; exact ⟨fun n z => ⟨fun k h => (by cases h), kI, gI, mI, qI⟩, fI⟩
    | 1, hq => cases hq; exact ⟨fun n z => ⟨fun k h => (by cases h), kJ, gJ, mJ, qJ⟩, fJ⟩
    | 2, hq => cases hq; exact ⟨fun n z => ⟨fun k h => (by cases h), kO, f3, mO, f4⟩, kO, mO, f3, f4, f1, f5⟩
    | k + 3, hq => simp [tT] at hq
  · exact va_Nw.of rfl (hts _ (List.mem_of_getElem? (i := 126) (by decide +kernel)))
  · exact va_Nw.of rfl (hts _ (List.mem_of_getElem? (i := 218) (by decide +kernel)))
  · exact va_Nw.of rfl (hts _ (List.mem_of_getElem? (i := 362) (by decide +kernel)))
  · exact va_Nw.of rfl (hts _ (List.mem_of_getElem? (i := 513) (by decide +kernel)))
  · exact va_Nw.of rfl (hts _ (List.mem_of_getElem? (i := 573) (by decide +kernel)))
set_option maxHeartbeats 4000000 in
/-- THE LAW, from its entry -/
theorem whole_start {p : Program} {e : Env} {s : State} {m : MethodId} {below : List Frame} {meth : Method} {c : Code} (l : Launch) (hflags : l.flags = flags0) {b L : Nat} {xs : Nat → Int32} (hL : L ≤ 2048) (C0 : lw_At p s m meth c b L xs) : W p l e room_1 s m #[Value.ref b] below meth c s.heap [] 0 0 (lw_Z below #[Value.ref b] s) (entryFrame m ([Value.ref b] : List Value).toArray 4) := by
  obtain ⟨D, cI, cJ, cO, hKx⟩ := law_K C0
  obtain ⟨hx, hb, hr, hml, hown, hts, hX, hbl, hlocks, hgv⟩ := C0
  have htg : ∀ w ∈ tg, w.before #[Value.ref b] s = true := fun w hw => hts w (List.mem_filter.mp hw).1
  have C : LX ((s.heap.size, D, cI, cJ, cO, rho, b), p, l, e, s, m, #[Value.ref b], below, meth, c) L xs :=
    ⟨⟨⟨hx, hb, hml, hown, htg⟩, ⟨hr, hlocks, fun h => absurd h (by decide), rho_ok⟩, hKx rho, Nat.le_refl _, Nat.le_of_ble_eq_true rfl, Nat.le_of_ble_eq_true rfl⟩, rfl, hbl, hX⟩
  have hl := lv_entry ([.ref b]) (n := 4) (Nat.le_of_ble_eq_true rfl)
  rw [lg_entry_eq]
  have K := law_0 C (law_16 C (law_loop C hL (fun j h => law_end C rfl (lvJ j) h) (L + 1) 0 (by omega) (by omega) 0 hY Iv_hY))
  exact K s.heap [] _ ⟨fun k q h => by simp [tw] at h, rfl⟩ va_S.rf hl
set_option maxHeartbeats 4000000 in
theorem lw_walk (l : Launch) (hflags : l.flags = flags0) (b : Addr) (xs : List Int32) : MetFree l x (headSpec (Jvm.Cond.code x code maxLocals ret :: tables_1) room_1) (lw_P b xs) (fun _ _ _ _ _ => True) lw_Q := by
  refine MetFree.of_bodyS (code := code) (maxLocals := maxLocals) (ret := ret) (by decide) ?_ ?_
  · intro args s m h hn
    obtain ⟨meth, c, h1, h2, h3, h4, h5, h6, -, -⟩ := Cond.code_spec hn (atoms_spec (ws := Jvm.Cond.code x code maxLocals ret :: tables_1) h _ List.mem_cons_self)
    exact ⟨meth, c, h1, h2, h3, h4, h5, h6⟩
  · intro p e s m args below meth c s₁ B hml0 hP _
    obtain ⟨rfl, hx, hbd, hgv⟩ := hP
    obtain ⟨scr, harrAt, hlist, hof, hsmall⟩ := hx
    obtain ⟨hcb, hkn, -, -⟩ := State.arrayAt?_spec harrAt
    have hown : s.vm.findClass R_law = some m.cls := findClass_of_methodNamed B.named
    have hts0 : ∀ c ∈ (Jvm.Cond.code x code maxLocals ret :: tables_1), c.before #[Value.ref b] s = true := atoms_spec (ws := Jvm.Cond.code x code maxLocals ret :: tables_1) B.pre
    have hts : ∀ w ∈ lw_tbl, w.before #[Value.ref b] s = true := k2_hts_sels lw_privs (fun w hw => hts0 w (List.mem_cons_of_mem _ hw)) lw_privs_ok
    have hml : c.maxLocals = 4 := B.maxLocals_eq (hts0 _ List.mem_cons_self)
    have X₀ : Stand p l e room_1 s m #[Value.ref b] below meth c s₁ [] 0 0 := Stand.of_body B
    have hh0 : s₁.heap = s.heap := by rw [B.state]; rfl
    have hsz : scr.slots.size = xs.length := by rw [← Array.length_toList, hlist, List.length_map]
    have hval : ∀ j : Nat, j < xs.length → scr.slots[j]? = some (.int (xs.getD j 0)) := fun j hj => by
      rw [← Array.getElem?_toList, hlist]
      simp [hj]
    have hbl : b < s.heap.size := (Array.getElem?_eq_some_iff.mp hcb).1
    have hX : va_X b xs.length (fun j => xs.getD j 0) s s.heap := ⟨scr, hcb, hof, hkn, hsz, hval⟩
    have K : W p l e room_1 s m #[Value.ref b] below meth c s₁.heap [] 0 0 (lw_Z below #[Value.ref b] s) (entryFrame m ([Value.ref b] : List Value).toArray 4) := by
      rw [hh0]
      exact whole_start l hflags hbd ⟨B.exec, B.bytes, B.returns, hml, hown, hts, hX, hbl, B.notSynchronized, hgv⟩
    obtain ⟨t, a1, o, b1, b2, b3⟩ := K s₁ rfl X₀
    exact ⟨t, o, a1, b1, b2, b3⟩
theorem lw_pre_spec {args : Array Value} {s : State} (h : (Jvm.Cond.and given_1 narrow_1).before args s = true) (hr : rest_1_c.before args s = true) : ∃ (b : Addr) (xs : List Int32), lw_P b xs args s := by
  have hs := flat_of_before _ h
  have hq := flat_of_before _ hr
  have hc : (Cond.count 1).before args s = true := hs _ (by decide +kernel)
  have harr : (Cond.arrayOf (.arg 0) .int).before args s = true := hs _ (by decide +kernel)
  have hle : (Cond.le (.length (.arg 0)) (.int 2048)).before args s = true := hs _ (by decide +kernel)
  have hlen : (Cond.isInt (.length (.arg 0))).before args s = true := hq _ (by decide +kernel)
  have hall : (Cond.all (.arg 0) (.isInt (.elem (.arg 0) (.index 0)))).before args s = true := hq _ (by decide +kernel)
  obtain ⟨b, xs, hb, hx⟩ := State.ints_of_pre rfl harr hlen hall
  have hsm : xs.length < 2 ^ 31 := hx.choose_spec.2.2.2
  have hev : (Term.length (.arg 0)).eval args s none [] s = some (.int xs.length.toInt32) := hx.length_eval hb
  have hv := Cond.le_ints hev (show (Term.int 2048).eval args s none [] s = some (.int 2048) from rfl)
  have hd : xs.length.toInt32 ≤ 2048 := by
    simpa [Cond.before, Cond.holds, hv] using hle
  have hN : xs.length ≤ 2048 := (Int32.ofNat_le_ofNat hsm (by decide)).mp (show Int32.ofNat xs.length ≤ Int32.ofNat 2048 from hd)
  exact ⟨b, xs, Cond.one_arg hc (show args[0]? = some (.ref b) from hb), hx, hN, h⟩
theorem lw_comes (l : Launch) (hflags : l.flags = flags0) : Comes l x (Jvm.Cond.code x code maxLocals ret :: tables_1) room_1 (fun tb e args s => Calls_1 tb e args s ∧ rest_1 tb e args s ∧ Pre_1 tb e args s)
    (fun _ _ args s o t => lw_Q args s o t) := by
  intro p e ha hc hk s m args below hf hfit hheap happ hpre
  obtain ⟨b, xs, hP⟩ := lw_pre_spec hpre.2.2 hpre.2.1
  obtain ⟨k, o, h1, h2, h3, hQ⟩ := lw_walk l hflags b xs p e ha hc hk s m args below hf ((Spec.applies_iff_loose hf).mp happ).1 hP trivial
  exact ⟨k, o, h1, h2, h3, hQ⟩
theorem lw_frame {s t : State} {o : Outcome} {args : Array Value} (h : Framed s o t [] 600000 7302250) :
    Framed s o t (fieldLocs frame_1_writes args s ++ arrayLocs frame_1_arrays args s ++ staticLocs frame_1_statics s) 600000 7302250 := h
theorem lw_limb (L : Cond) (hL : ∀ (args : Array Value) (s t : State), L.after args s (.returned (some (.int 1))) t = true) :
    ArmFor flags0 classFile x code maxLocals ret World_1 tables_1 room_1 Calls_1 rest_1 Pre_1
      (fun tb e a s o t => postC L tb e a s o t ∧ Framed s o t (fieldLocs frame_1_writes a s ++ arrayLocs frame_1_arrays a s ++ staticLocs frame_1_statics s) 600000 7302250) := by
  intro l hflags _ _ p e ha hc hk s m args below hf hfit hheap happ hpre
  obtain ⟨k, o, h1, h2, h3, rfl, hF⟩ := lw_comes l hflags p e ha hc hk s m args below hf hfit hheap happ hpre
  exact ⟨k, _, h1, h2, h3, hL args s _, lw_frame hF⟩
theorem i_vc : Claimed_1_1 ∧ Claimed_1_2 := ⟨lw_limb limb_1_1 (fun args s t => by simp [limb_1_1, Cond.after, Cond.holds, Cond.value]), lw_limb limb_1_2 (fun args s t => Cond.after_iff.mpr (by
  first | (rw [show limb_1_2 = Cond.eq .result (.int 1) from rfl, Cond.eq_ints (x := 1) (y := 1) rfl rfl]; simp; done) | (simp [limb_1_2, Cond.value, Term.eval]; done)))⟩
