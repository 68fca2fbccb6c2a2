/-! THE CHECKER: its run, and that what it accepts ends -/
def zmd (LL : List ((aM × Nat × Nat) × aP)) (m c : Nat) : Bool := match LL[m]? with
  | some x => match x.1.2 with
    | (0, 0) => Nat.ble c x.1.1.2.2.1
    | _ => false
  | none => false
def zgo (LL : List ((aM × Nat × Nat) × aP)) (TT : List zP) (md : List Nat) (SS : List zSm) (NP : List (Nat × Nat)) (ND : List zNd) (XT : zS) (SP : List zSp) (c0 : Int) (t0 : List (Int × Nat)) : Nat → Bool → List (zP × zG) → Nat → Nat → zP → Nat → zS → Bool
  | 0, _, _, _, _, _, _, _ => false
  | f + 1, fi, fs, d, mid, tp, pc, s => match (match fi with
      | true => false
      | false => match zisn NP mid pc with
        | true => znode ND mid pc s (fs.map (·.2)) c0 t0
        | false => false) with
    | true => true
    | false => zspl SP mid pc s (fun s => match zlk tp pc with
      | none => false
      | some tr => tr md s (fun R => match R with
        | .inl (pc', s') => zgo LL TT md SS NP ND XT SP c0 t0 f false fs d mid tp pc' s'
        | .inr (.inl (m2, as, s')) => match zmd LL m2 (zcat as) with
          | true => zlvx 0 as (fun el => match zhas SS m2 with
            | true => zcl SS d m2 md el s' (fun s'' => zgo LL TT md SS NP ND XT SP c0 t0 f false fs d mid tp (pc + 3) s'')
            | false => match d, TT[m2]? with
              | d' + 1, some t2 => match s' with
                | (l, st, hp, B, F, n) => frN (pc + 3) (fun pc3 => zgo LL TT md SS NP ND XT SP c0 t0 f false ((tp, (mid, pc3, l, st)) :: fs) d' m2 t2 0 (el, [], hp, B, F, n))
              | _, _ => false)
          | false => false
        | .inr (.inr (v, s')) => match s' with
          | (_, _, hp, B, F, n) => match fs with
            | [] => zin XT [] [] v.toList hp B F [] (fun _ => true)
            | (tp', m', pc', l', st') :: fs' => match v with
              | some v => zgo LL TT md SS NP ND XT SP c0 t0 f false fs' (d + 1) m' tp' pc' (l', v :: st', hp, B, F, n)
              | none => zgo LL TT md SS NP ND XT SP c0 t0 f false fs' (d + 1) m' tp' pc' (l', st', hp, B, F, n)))
/-- the program of a method -/
def pg (LL : List ((aM × Nat × Nat) × aP)) (m : Nat) : aP := match LL[m]? with
  | some x => x.2
  | none => []
def ztp (TT : List zP) (m : Nat) : zP := match TT[m]? with
  | some t => t
  | none => []
/-- what waits below -/
def Kf (LL : List ((aM × Nat × Nat) × aP)) : List aFr → Nat → (Option Value → aH → Prop) → Option Value → aH → Prop
  | [], _, Q => Q
  | C :: c, d, Q => fun r h => Ex (Rl LL (d + 1)) (pg LL C.1) C.2.1 C.2.2.1 (rl r ++ C.2.2.2) h (Kf LL c (d + 1) Q)
/-- what a summary says -/
def SmOk (LL : List ((aM × Nat × Nat) × aP)) (q : zSm) : Prop := ∀ (z0 : Int) (h : aH) (as : List aV) (σ : Nat → Int), ms (z0, h, q.2.2.2.2) σ q.2.2.1 (lvx 0 as) [] h → zmd LL q.1 (catS as) = true → ∃ (r : Option Value) (h' : aH), Rl LL q.2.1 q.1 as h r h' ∧ ∃ σX, ms (z0, h, q.2.2.2.2) σX q.2.2.2.1 [] (rl r) h'
theorem zlvx_t {as : List zV} {i : Nat} {k : List (Nat × zV) → Bool} (h : zlvx i as k = true) : ∃ l, k l = true ∧ ∀ σ, mL σ l (lvx i (cs σ as)) := by
  obtain ⟨l, e, H⟩ := zlvx_ok as i k
  rw [e] at h
  exact ⟨l, h, H⟩
theorem mFs_len : ∀ {σ : Nat → Int} {g : List zG} {c : List aFr}, mFs σ g c → g.length = c.length
  | σ, [], [], _ => rfl
  | σ, [], _ :: _, h => h.elim
  | σ, _ :: _, [], h => h.elim
  | σ, _ :: g, _ :: c, h => by rw [List.length_cons, List.length_cons, mFs_len h.2]
theorem cs_opt (σ : Nat → Int) (v : Option zV) : cs σ v.toList = rl (v.map (cv σ)) := by cases v <;> rfl
theorem zgo_ok {LL : List ((aM × Nat × Nat) × aP)} (hLL : LL.map (·.1) = MDl) {TT : List zP} (hT : ∀ mid pc tr, zlk (ztp TT mid) pc = some tr → ∃ op, lkb (pg LL mid) pc = some op ∧ Sd op tr) {md : List Nat} {SS : List zSm} (hS : ∀ q ∈ SS, SmOk LL q) {NP : List (Nat × Nat)} {ND : List zNd} {XT : zS} {SP : List zSp} {c0 : Int} {t0 : List (Int × Nat)} {z0 : Int} {h0 : aH} {M : Int} {D : Nat}
    (hN : ∀ nd ∈ ND, ∀ (σ : Nat → Int) (lv : aL) (st : List aV) (h : aH) (cf : List aFr), ms (z0, h0, md) σ nd.2.2.1 lv st h → (∀ τ, ag nd.2.2.1.2.2.2.2.2 σ τ → mFs τ nd.2.2.2.1 cf) → 0 ≤ nd.2.2.2.2.1 + evl σ nd.2.2.2.2.2 → nd.2.2.2.2.1 + evl σ nd.2.2.2.2.2 < M → cf.length ≤ D → Ex (Rl LL (D - cf.length)) (pg LL nd.1) nd.2.1 lv st h (Kf LL cf (D - cf.length) (fun r h' => ∃ σX, ms (z0, h0, md) σX XT [] (rl r) h'))) :
    ∀ (f : Nat) (fi : Bool) (fs : List (zP × zG)) (d mid : Nat) (tp : zP) (pc : Nat) (s : zS), zgo LL TT md SS NP ND XT SP c0 t0 f fi fs d mid tp pc s = true → ∀ (σ : Nat → Int) (lv : aL) (st : List aV) (h : aH) (cf : List aFr), tp = ztp TT mid → (∀ q ∈ fs, q.1 = ztp TT q.2.1) → d + fs.length = D → ms (z0, h0, md) σ s lv st h → (∀ τ, ag s.2.2.2.2.2 σ τ → mFs τ (fs.map (·.2)) cf) → (∀ τ, ag s.2.2.2.2.2 σ τ → c0 + evl τ t0 = M) → Ex (Rl LL d) (pg LL mid) pc lv st h (Kf LL cf d (fun r h' => ∃ σX, ms (z0, h0, md) σX XT [] (rl r) h')) := by
  intro f
  induction f with
  | zero => intro fi fs d mid tp pc s hz; cases hz
  | succ f ih =>
    intro fi fs d mid tp pc s hz σ lv st h cf htp hfs hD H HF HM
    have hlen : fs.length = cf.length := by
      have := mFs_len (HF σ ag.rf)
      rwa [List.length_map] at this
    unfold zgo at hz
    split at hz
    · rename_i hn
      split at hn
      · cases hn
      · split at hn
        · obtain ⟨nd, hnd, e1, e2, hz⟩ := znode_ok hn
          obtain ⟨l, st0, hp, B, F, n⟩ := s
          obtain ⟨th, σT, hk, hTH, HT, HFT⟩ := zin_ok (K' := (z0, h0, md)) H (HF σ ag.rf) hz rfl (H σ ag.rf).2.2.2.2.2
          have dc := zdec_ok hk (H σ ag.rf).2.2.1 (H σ ag.rf).2.2.2.2.1.1 hTH
          have := hN nd hnd σT lv st h cf HT HFT dc.1 (by rw [← HM σ ag.rf]; exact dc.2) (by omega)
          rw [show D - cf.length = d by omega, e1, e2] at this
          exact this
        · cases hn
    · obtain ⟨s1, hz, H1, en⟩ := zspl_ok SP s H hz
      rw [← en] at HF HM
      clear H en
      split at hz
      · cases hz
      · rename_i tr htr
        rw [htp] at htr
        obtain ⟨op, hop, hSd⟩ := hT mid pc tr htr
        obtain ⟨R, hz', hSo⟩ := hSd _ σ s1 lv st h H1 _ hz
        clear hz
        have hz := hz'
        clear hz'
        split at hz
        · rename_i pc' s'
          obtain ⟨σ', lv', st', h', ho, Hs, hn, hag⟩ := hSo
          exact Ex.next hop ho (ih false fs d mid tp pc' s' hz σ' lv' st' h' cf htp hfs hD Hs (fun τ hτ => HF τ (hag.tr hτ hn)) (fun τ hτ => HM τ (hag.tr hτ hn)))
        · rename_i m2 as s'
          obtain ⟨ho, Hs, hn, has⟩ := hSo
          dsimp only at ho Hs hn has
          split at hz
          · rename_i hmd
            have hmd' := hmd
            unfold zmd at hmd
            split at hmd
            · rename_i x hx
              split at hmd
              · rename_i h00
                have hcat := Nat.le_of_ble_eq_true hmd
                have hMD : MD m2 = x.1 := by
                  unfold MD
                  rw [← hLL, List.getD_eq_getElem?_getD, List.getElem?_map, hx]
                  rfl
                obtain ⟨el, hz', hmL⟩ := zlvx_t hz
                clear hz
                have hz := hz'
                clear hz'
                dsimp only at hz
                have HE : ms (z0, h0, md) σ (el, [], s'.2.2.1, s'.2.2.2.1, s'.2.2.2.2.1, s'.2.2.2.2.2) (lvx 0 (cs σ as)) [] h := fun τ hτ => by
                  have G := Hs τ hτ
                  refine ⟨⟨?_, rfl⟩, G.2⟩
                  rw [← has τ (by rw [← hn]; exact hτ)]
                  exact hmL τ
                split at hz
                · obtain ⟨q, hq, e1, e2, e3, e4, e5⟩ := zcl_ok hz
                  obtain ⟨th, σT, -, -, HT, -⟩ := zin_ok (K' := (z0, h, q.2.2.2.2)) (fs := []) (cf := []) HE True.intro e4 rfl (fun p _ => rfl)
                  obtain ⟨r1, h1, hR, σX, HX⟩ := hS q hq z0 h (cs σ as) σT HT (by rw [e1, zcat_ok]; exact hmd')
                  rw [e1] at hR
                  refine Ex.call (P := fun r1 h1 => ∃ σX, ms (z0, h, q.2.2.2.2) σX q.2.2.2.1 [] (rl r1) h1) hop ho (by rw [hMD]; exact h00) ⟨r1, h1, Rl_le e2 hR, σX, HX⟩ (fun r1 h1 hP => ?_)
                  obtain ⟨σX, HX⟩ := hP
                  obtain ⟨s'', σ', hz, H2, hn2, hag⟩ := zaf_ok Hs HX e3 e5
                  rw [hn] at hn2 hag
                  exact ih false fs d mid tp (pc + 3) s'' hz σ' lv _ h1 cf htp hfs hD H2 (fun τ hτ => HF τ (hag.tr hτ hn2)) (fun τ hτ => HM τ (hag.tr hτ hn2))
                · cases d with
                  | zero =>
                    have hz : false = true := hz
                    cases hz
                  | succ d' =>
                    cases ht2 : TT[m2]? with
                    | none =>
                      rw [ht2] at hz
                      cases hz
                    | some t2 =>
                      rw [ht2] at hz
                      obtain ⟨l, st2, hp, B, F, n⟩ := s'
                      dsimp only at hz
                      rw [frN_eq] at hz
                      have hn : n = s1.2.2.2.2.2 := hn
                      have IH := ih false ((tp, (mid, pc + 3, l, st2)) :: fs) d' m2 t2 0 (el, [], hp, B, F, n) hz σ (lvx 0 (cs σ as)) [] h ((mid, pc + 3, lv, cs σ st2) :: cf) (by unfold ztp; rw [ht2]) (fun q hq => by
                        rcases List.mem_cons.mp hq with rfl | hq
                        · exact htp
                        · exact hfs q hq) (by rw [List.length_cons]; omega) HE (fun τ hτ => ⟨⟨rfl, rfl, (Hs τ hτ).1.1, (Hs τ hτ).1.2⟩, HF τ (by rw [← hn]; exact hτ)⟩) (fun τ hτ => HM τ (by rw [← hn]; exact hτ))
                      obtain ⟨k, r1, h1, a, b⟩ := IH
                      refine Ex.call (P := fun r h => Ex (Rl LL (d' + 1)) (pg LL mid) (pc + 3) lv (rl r ++ cs σ st2) h (Kf LL cf (d' + 1) (fun r h' => ∃ σX, ms (z0, h0, md) σX XT [] (rl r) h'))) hop ho (by rw [hMD]; exact h00) ⟨r1, h1, ⟨x, k, hx, by rw [zcat_ok]; exact hcat, h00, ?_⟩, b⟩ (fun r h hP => hP)
                      have e : pg LL m2 = x.2 := by unfold pg; rw [hx]
                      rw [← e]
                      exact a
              · cases hmd
            · cases hmd
          · cases hz
        · rename_i v s'
          obtain ⟨ho, es, hv⟩ := hSo
          dsimp only at ho es hv
          subst es
          obtain ⟨l, st2, hp, B, F, n⟩ := s'
          dsimp only at hz
          refine Ex.ret hop ho ?_
          have base : ∀ (l' : List (Nat × zV)) (lv' : aL) (st' : List zV) (sc' : List aV), (∀ τ, ag n σ τ → mL τ l' lv' ∧ sc' = cs τ st') → ms (z0, h0, md) σ (l', st', hp, B, F, n) lv' sc' h := fun l' lv' st' sc' hh τ hτ => ⟨hh τ hτ, (H1 τ hτ).2⟩
          cases fs with
          | nil =>
            have hz : zin XT [] [] v.toList hp B F [] (fun _ => true) = true := hz
            cases cf with
            | nil =>
              have HE := base [] [] v.toList (rl (v.map (cv σ))) (fun τ hτ => ⟨fun i u hu => (by cases hu), by rw [cs_opt, hv τ hτ]⟩)
              obtain ⟨th, σT, -, -, HT, -⟩ := zin_ok (K' := (z0, h0, md)) (fs := []) (cf := []) HE True.intro hz rfl (H1 σ ag.rf).2.2.2.2.2
              exact ⟨σT, HT⟩
            | cons C c => exact (HF σ ag.rf).elim
          | cons q fs' =>
            obtain ⟨tp', m', pc', l', st'⟩ := q
            cases cf with
            | nil => exact (HF σ ag.rf).elim
            | cons C c =>
              have F0 : ∀ τ, ag n σ τ → mFr τ (m', pc', l', st') C ∧ mFs τ (fs'.map (·.2)) c := fun τ hτ => HF τ hτ
              obtain ⟨Cm, Cp, Cl, Cs⟩ := C
              have e1 : Cm = m' := (F0 σ ag.rf).1.1
              have e2 : Cp = pc' := (F0 σ ag.rf).1.2.1
              subst e1 e2
              have htp' : tp' = ztp TT Cm := hfs _ List.mem_cons_self
              have go : ∀ (st2' : List zV), (∀ τ, ag n σ τ → rl (v.map (cv σ)) ++ Cs = cs τ st2') → zgo LL TT md SS NP ND XT SP c0 t0 f false fs' (d + 1) Cm tp' Cp (l', st2', hp, B, F, n) = true → Kf LL ((Cm, Cp, Cl, Cs) :: c) d (fun r h' => ∃ σX, ms (z0, h0, md) σX XT [] (rl r) h') (v.map (cv σ)) h := fun st2' hst hz => by
                exact ih false fs' (d + 1) Cm tp' Cp (l', st2', hp, B, F, n) hz σ Cl _ h c htp' (fun q hq => hfs q (List.mem_cons_of_mem _ hq)) (by rw [List.length_cons] at hD; omega) (base l' Cl st2' _ (fun τ hτ => ⟨(F0 τ hτ).1.2.2.1, hst τ hτ⟩)) (fun τ hτ => (F0 τ hτ).2) HM
              cases v with
              | some v' =>
                refine go (v' :: st') (fun τ hτ => ?_) hz
                have q : some (cv τ v') = some (cv σ v') := hv τ hτ
                rw [cs_cons, Option.some.inj q, ← show Cs = cs τ st' from (F0 τ hτ).1.2.2.2]
                rfl
              | none => exact go st' (fun τ hτ => (F0 τ hτ).1.2.2.2) hz
