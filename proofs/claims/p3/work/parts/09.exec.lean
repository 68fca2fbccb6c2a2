/-! THE RUN of the small machine, and that the machine runs so -/
def lkp : List (Nat × aO) → Nat → Option aO
  | [], _ => none
  | q :: t, pc => match Nat.beq q.1 pc with
    | true => some q.2
    | false => lkp t pc
def lkb : List (Nat × List (Nat × aO)) → Nat → Option aO
  | [], _ => none
  | b :: t, pc => match Nat.ble pc b.1 with
    | true => lkp b.2 pc
    | false => lkb t pc
theorem lkp_spec : ∀ (l : List (Nat × aO)) (pc : Nat) (op : aO), lkp l pc = some op → (pc, op) ∈ l
  | [], pc, op, h => by cases h
  | q :: t, pc, op, h => by
    rw [lkp] at h
    split at h
    · rename_i hq
      cases h
      rw [← Nat.eq_of_beq_eq_true hq]
      exact List.mem_cons_self
    · exact List.mem_cons_of_mem _ (lkp_spec t pc op h)
theorem lkb_spec : ∀ (pr : List (Nat × List (Nat × aO))) (pc : Nat) (op : aO), lkb pr pc = some op → ∃ b ∈ pr, (pc, op) ∈ b.2
  | [], pc, op, h => by cases h
  | b :: t, pc, op, h => by
    rw [lkb] at h
    split at h
    · exact ⟨b, List.mem_cons_self, lkp_spec _ _ _ h⟩
    · obtain ⟨b', h1, h2⟩ := lkb_spec t pc op h
      exact ⟨b', List.mem_cons_of_mem _ h1, h2⟩
/-- the locals at a method's entry -/
def lvx : Nat → List aV → aL
  | _, [] => []
  | i, v :: vs => (i, v) :: lvx (if ac v = 2 then i + 2 else i + 1) vs
def lvF {β : Type} : List aV → Nat → (aL → β) → β
  | [], _, k => k []
  | v :: t, i, k => match Nat.beq (ac v) 2 with
    | true => lvF t (i + 2) (fun r => k ((i, v) :: r))
    | false => lvF t (i + 1) (fun r => k ((i, v) :: r))
theorem lvF_eq {β : Type} : ∀ (vs : List aV) (i : Nat) (k : aL → β), lvF vs i k = k (lvx i vs)
  | [], i, k => rfl
  | v :: t, i, k => by
    rw [lvF, lvx]
    cases hc : Nat.beq (ac v) 2 with
    | true => rw [if_pos (Nat.eq_of_beq_eq_true hc)]; simp only [lvF_eq]
    | false => rw [if_neg (fun e => by rw [e] at hc; cases hc)]; simp only [lvF_eq]
theorem lva_tl (G : aG) : ∀ (vs : List aV) (i : Nat), lv_args i (vs.map (tx G)) = tl G (lvx i vs)
  | [], i => rfl
  | v :: t, i => by
    rw [List.map_cons, lv_args, lvx, tx_cat, lva_tl G t]
    rfl
theorem sl_len (G : aG) : ∀ vs : List aV, (lg_sl (vs.map (tx G))).length = catS vs
  | [] => rfl
  | v :: t => by
    have := sl_len G t
    unfold lg_sl catS at this ⊢
    rw [List.map_cons, List.flatMap_cons, List.length_append, this, List.map_cons, List.sum_cons, tx_cat]
    congr 1
    have hv := tx_cat G v
    rcases lv_cat (tx G v) with h | h <;> rw [hv] at h <;> rw [h] <;> rfl
abbrev aR : Type := Option (Option Value × aH)
abbrev aP : Type := List (Nat × List (Nat × aO))
def run (call : Nat → List aV → aH → aR) (pr : aP) (mc ms : Nat) : Nat → Nat → aL → List aV → aH → Nat → Nat → aR
  | 0, _, _, _, _, _, _ => none
  | n + 1, pc, lv, st, h, a, b => match lkb pr pc with
    | none => none
    | some op => match op lv st h with
      | none => none
      | some (.inl (pc', lv', st', h', da, db)) => match da, db with
        | 0, 0 => run call pr mc ms n pc' lv' st' h' a b
        | da, db => frN (a + da) (fun a' => frN (b + db) (fun b' => match Nat.ble a' mc, Nat.ble b' ms with
          | true, true => run call pr mc ms n pc' lv' st' h' a' b'
          | _, _ => none))
      | some (.inr (.inl (mid, as, rest))) => match call mid as h with
        | none => none
        | some (r, h1) => match MD mid with
          | (_, da, db) => match da, db with
            | 0, 0 => run call pr mc ms n (pc + 3) lv (rl r ++ rest) h1 a b
            | da, db => frN (a + da) (fun a' => frN (b + db) (fun b' => match Nat.ble a' mc, Nat.ble b' ms with
              | true, true => run call pr mc ms n (pc + 3) lv (rl r ++ rest) h1 a' b'
              | _, _ => none))
      | some (.inr (.inr r)) => some (r, h)
theorem run_sound {G : aG} {M : aM} {d : Nat} {p : Program} {l : Launch} {e : Env} {R : Room} {s : State} {m : MethodId} {args : Array Value} {below : List Frame} {meth : Method} {c : Code} (hF : Fx G M d p R s m args meth c) {pr : aP} (hok : ∀ b ∈ pr, ∀ q ∈ b.2, Ok M q.1 q.2) {mc ms : Nat} (hc : mc ≤ R.cells) (hs : ms ≤ R.slots) {call : Nat → List aV → aH → aR} (hcall : ∀ (mid : Nat) (as : List aV) (h : aH) (r : Option Value) (h' : aH), call mid as h = some (r, h') → MtE l G d (MD mid) as h r h') (r : Option Value) (h' : aH) : ∀ (n pc : Nat) (lv : aL) (st : List aV) (h : aH) (a b : Nat), a ≤ mc → b ≤ ms → run call pr mc ms n pc lv st h a b = some (r, h') → Wc G M.2.2.1 p l e R s m args below meth c (MQ below (Qx G r h') args s mc ms (fun q => G.1 ≤ q)) pc lv st h a b := by
  intro n
  induction n with
  | zero => intro pc lv st h a b _ _ hr; cases hr
  | succ n ih =>
    intro pc lv st h a b ha hb hr
    rw [run] at hr
    split at hr
    · cases hr
    · rename_i op hop
      obtain ⟨bl, hbl, hq⟩ := lkb_spec pr pc op hop
      have K := hok bl hbl (pc, op) hq G d p l e R s m args below meth c hF lv st h
      split at hr
      · cases hr
      · rename_i pc' lv' st' h1 da db hx
        have K1 := K _ hx a b (MQ below (Qx G r h') args s mc ms (fun q => G.1 ≤ q))
        dsimp only at K1
        split at hr
        · exact K1 (Nat.le_trans ha hc) (Nat.le_trans hb hs) (ih pc' lv' st' h1 a b ha hb hr)
        · rw [frN_eq, frN_eq] at hr
          split at hr
          · rename_i g1 g2
            have g1 := Nat.le_of_ble_eq_true g1
            have g2 := Nat.le_of_ble_eq_true g2
            exact K1 (Nat.le_trans g1 hc) (Nat.le_trans g2 hs) (ih pc' lv' st' h1 _ _ g1 g2 hr)
          · cases hr
      · rename_i mid as rest hx
        split at hr
        · cases hr
        · rename_i rv h1 hcl
          have K1 := K _ hx a b (MQ below (Qx G r h') args s mc ms (fun q => G.1 ≤ q)) rv h1 (hcall mid as h rv h1 hcl)
          dsimp only at K1
          split at hr
          rename_i x3 da db hmd
          rw [hmd] at K1
          dsimp only at K1
          split at hr
          · exact K1 (Nat.le_trans ha hc) (Nat.le_trans hb hs) (ih (pc + 3) lv _ h1 a b ha hb hr)
          · rw [frN_eq, frN_eq] at hr
            split at hr
            · rename_i g1 g2
              have g1 := Nat.le_of_ble_eq_true g1
              have g2 := Nat.le_of_ble_eq_true g2
              exact K1 (Nat.le_trans g1 hc) (Nat.le_trans g2 hs) (ih (pc + 3) lv _ h1 _ _ g1 g2 hr)
            · cases hr
      · rename_i rv hx
        cases hr
        exact K _ hx a b mc ms ha hb
/-- a method by its number, with frames to the depth d -/
def exM (LL : List ((aM × Nat × Nat) × aP)) (fu : Nat) : Nat → Nat → List aV → aH → aR
  | 0 => fun _ _ _ => none
  | d + 1 => fun mid as h => match LL[mid]? with
    | none => none
    | some x => match Nat.ble (catS as) x.1.1.2.2.1 with
      | true => lvF as 0 (fun lv => run (exM LL fu d) x.2 x.1.2.1 x.1.2.2 fu 0 lv [] h 0 0)
      | false => none
theorem exM_sound (l : Launch) (G : aG) (hρ : Rh G.2.2.2.2.2.1) {LL : List ((aM × Nat × Nat) × aP)} (h1 : LL.map (·.1) = MDl) (h2 : ∀ x ∈ LL, ∀ b ∈ x.2, ∀ q ∈ b.2, Ok x.1.1 q.1 q.2) (h3 : ∀ x ∈ LL, plainName x.1.1.1.cls = true) (fu : Nat) : ∀ (d mid : Nat) (as : List aV) (h : aH) (r : Option Value) (h' : aH), exM LL fu d mid as h = some (r, h') → MtE l G d (MD mid) as h r h' := by
  intro d
  induction d with
  | zero => intro mid as h r h' hr; cases hr
  | succ d ih =>
    intro mid as h r h' hr
    rw [exM] at hr
    dsimp only at hr
    split at hr
    · cases hr
    · rename_i x hx
      have hxm : x ∈ LL := List.mem_of_getElem? hx
      have hmd : MD mid = x.1 := by
        unfold MD
        rw [← h1, List.getD_eq_getElem?_getD, List.getElem?_map, hx]
        rfl
      rw [hmd]
      split at hr
      · rename_i hcat
        have hcat := Nat.le_of_ble_eq_true hcat
        rw [lvF_eq] at hr
        unfold MtE
        refine Met.ofW (cc := x.1.1.2.1) (maxL := x.1.1.2.2.1) (ret := x.1.1.2.2.2) (h3 x hxm) rfl ?_
        intro p e s m args below meth c s₁ B hml hv
        obtain ⟨rfl, hP, hK⟩ := hv
        have hts := atoms_spec (ws := Cond.code x.1.1.1 x.1.1.2.1 x.1.1.2.2.1 x.1.1.2.2.2 :: tg) B.pre
        have hF : Fx G x.1.1 d p (headSpec (Cond.code x.1.1.1 x.1.1.2.1 x.1.1.2.2.1 x.1.1.2.2.2 :: tg) { frames := d + 1, cells := x.1.2.1, slots := x.1.2.2, locals := 40 * (d + 1) }).room s m (as.map (tx G)).toArray meth c :=
          ⟨⟨B.exec, B.bytes, hml, findClass_of_methodNamed B.named, fun w hw => hts w (List.mem_cons_of_mem _ hw)⟩, ⟨B.returns, B.notSynchronized, fun h => (name_of_methodNamed B.named B.method).1.trans h, hρ⟩, hK, by rw [hP.2]; exact Nat.le_add_right _ _, Nat.le_refl _, Nat.le_refl _⟩
        have hl := lv_entry (as.map (tx G)) (n := x.1.1.2.2.1) (by rw [sl_len]; exact hcat)
        rw [lva_tl] at hl
        rw [lg_entry_eq]
        exact run_sound hF (h2 x hxm) (Nat.le_refl _) (Nat.le_refl _) ih r h' fu 0 (lvx 0 as) [] h 0 0 (Nat.zero_le _) (Nat.zero_le _) hr s.heap [] _ hP va_S.rf hl
      · cases hr
