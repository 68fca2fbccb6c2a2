/-! RUNS OF ANY LENGTH as a relation (for p2, p3): no fixed fuel; contracts compose by Ex_ -/
abbrev aS : Type := Nat → List aV → aH → Option Value → aH → Prop
def rn (C : aS) (pr : aP) : Nat → Nat → aL → List aV → aH → Option Value → aH → Prop
  | 0, _, _, _, _, _, _ => False
  | n + 1, pc, lv, st, h, r, h' => match lkb pr pc with
    | none => False
    | some op => match op lv st h with
      | some (.inl (pc', lv', st', h1, 0, 0)) => rn C pr n pc' lv' st' h1 r h'
      | some (.inr (.inl (mid, as, rest))) => (MD mid).2 = (0, 0) ∧ ∃ (r1 : Option Value) (h1 : aH), C mid as h r1 h1 ∧ rn C pr n (pc + 3) lv (rl r1 ++ rest) h1 r h'
      | some (.inr (.inr r0)) => r0 = r ∧ h = h'
      | _ => False
/-- a method by its number, frames to the depth d, any number of steps -/
def Rl (LL : List ((aM × Nat × Nat) × aP)) : Nat → aS
  | 0 => fun _ _ _ _ _ => False
  | d + 1 => fun mid as h r h' => ∃ (x : (aM × Nat × Nat) × aP) (n : Nat), LL[mid]? = some x ∧ catS as ≤ x.1.1.2.2.1 ∧ x.1.2 = (0, 0) ∧ rn (Rl LL d) x.2 n 0 (lvx 0 as) [] h r h'
def Ex (C : aS) (pr : aP) (pc : Nat) (lv : aL) (st : List aV) (h : aH) (Q : Option Value → aH → Prop) : Prop := ∃ (n : Nat) (r : Option Value) (h' : aH), rn C pr n pc lv st h r h' ∧ Q r h'
theorem Ex.next {C : aS} {pr : aP} {pc pc' : Nat} {lv lv' : aL} {st st' : List aV} {h h1 : aH} {Q : Option Value → aH → Prop} {op : aO} (hl : lkb pr pc = some op) (hx : op lv st h = some (.inl (pc', lv', st', h1, 0, 0))) (k : Ex C pr pc' lv' st' h1 Q) : Ex C pr pc lv st h Q := by
  obtain ⟨n, r, h', a, b⟩ := k
  refine ⟨n + 1, r, h', ?_, b⟩
  unfold rn
  rw [hl]
  dsimp only
  rw [hx]
  exact a
theorem Ex.call {C : aS} {pr : aP} {pc mid : Nat} {lv : aL} {st as rest : List aV} {h : aH} {Q P : Option Value → aH → Prop} {op : aO} (hl : lkb pr pc = some op) (hx : op lv st h = some (.inr (.inl (mid, as, rest)))) (hm : (MD mid).2 = (0, 0)) (hc : ∃ (r1 : Option Value) (h1 : aH), C mid as h r1 h1 ∧ P r1 h1) (k : ∀ (r1 : Option Value) (h1 : aH), P r1 h1 → Ex C pr (pc + 3) lv (rl r1 ++ rest) h1 Q) : Ex C pr pc lv st h Q := by
  obtain ⟨r1, h1, c1, p1⟩ := hc
  obtain ⟨n, r, h', a, b⟩ := k r1 h1 p1
  refine ⟨n + 1, r, h', ?_, b⟩
  unfold rn
  rw [hl]
  dsimp only
  rw [hx]
  exact ⟨hm, r1, h1, c1, a⟩
theorem Ex.ret {C : aS} {pr : aP} {pc : Nat} {lv : aL} {st : List aV} {h : aH} {Q : Option Value → aH → Prop} {op : aO} {r : Option Value} (hl : lkb pr pc = some op) (hx : op lv st h = some (.inr (.inr r))) (q : Q r h) : Ex C pr pc lv st h Q := by
  refine ⟨1, r, h, ?_, q⟩
  unfold rn
  rw [hl]
  dsimp only
  rw [hx]
  exact ⟨rfl, rfl⟩
theorem Ex.mono {C : aS} {pr : aP} {pc : Nat} {lv : aL} {st : List aV} {h : aH} {Q Q' : Option Value → aH → Prop} (k : Ex C pr pc lv st h Q) (hq : ∀ r h', Q r h' → Q' r h') : Ex C pr pc lv st h Q' := by
  obtain ⟨n, r, h', a, b⟩ := k
  exact ⟨n, r, h', a, hq r h' b⟩
theorem rn_sound {G : aG} {M : aM} {d : Nat} {p : Program} {l : Launch} {e : Env} {R : Room} {s : State} {m : MethodId} {args : Array Value} {below : List Frame} {meth : Method} {c : Code} (hF : Fx G M d p R s m args meth c) {pr : aP} (hok : ∀ b ∈ pr, ∀ q ∈ b.2, Ok M q.1 q.2) {C : aS} (hcall : ∀ (mid : Nat) (as : List aV) (h : aH) (r : Option Value) (h' : aH), C mid as h r h' → MtE l G d (MD mid) as h r h') (r : Option Value) (h' : aH) : ∀ (n pc : Nat) (lv : aL) (st : List aV) (h : aH), rn C pr n pc lv st h r h' → Wc G M.2.2.1 p l e R s m args below meth c (MQ below (Qx G r h') args s 0 0 (fun q => G.1 ≤ q)) pc lv st h 0 0 := by
  intro n
  induction n with
  | zero => intro pc lv st h hr; exact hr.elim
  | succ n ih =>
    intro pc lv st h hr
    unfold rn at hr
    split at hr
    · exact hr.elim
    · rename_i op hop
      obtain ⟨bl, hbl, hq⟩ := lkb_spec pr pc op hop
      have K := hok bl hbl (pc, op) hq G d p l e R s m args below meth c hF lv st h
      split at hr
      · rename_i pc' lv' st' h1 hx
        exact K _ hx 0 0 _ (Nat.zero_le _) (Nat.zero_le _) (ih pc' lv' st' h1 hr)
      · rename_i mid as rest hx
        obtain ⟨hm, r1, h1, c1, k1⟩ := hr
        have K1 := K _ hx 0 0 (MQ below (Qx G r h') args s 0 0 (fun q => G.1 ≤ q)) r1 h1 (hcall mid as h r1 h1 c1)
        dsimp only at K1
        rw [hm] at K1
        exact K1 (Nat.zero_le _) (Nat.zero_le _) (ih (pc + 3) lv _ h1 k1)
      · rename_i r0 hx
        obtain ⟨rfl, rfl⟩ := hr
        exact K _ hx 0 0 0 0 (Nat.le_refl _) (Nat.le_refl _)
      · exact hr.elim
theorem Rl_sound (l : Launch) (G : aG) (hρ : Rh G.2.2.2.2.2.1) {LL : List ((aM × Nat × Nat) × aP)} (h1 : LL.map (·.1) = MDl) (h2 : ∀ x ∈ LL, ∀ b ∈ x.2, ∀ q ∈ b.2, Ok x.1.1 q.1 q.2) (h3 : ∀ x ∈ LL, plainName x.1.1.1.cls = true) : ∀ (d mid : Nat) (as : List aV) (h : aH) (r : Option Value) (h' : aH), Rl LL d mid as h r h' → MtE l G d (MD mid) as h r h' := by
  intro d
  induction d with
  | zero => intro mid as h r h' hr; exact hr.elim
  | succ d ih =>
    intro mid as h r h' hr
    obtain ⟨x, n, hx, hcat, hz, hr⟩ := hr
    have hxm : x ∈ LL := List.mem_of_getElem? hx
    have hmd : MD mid = x.1 := by
      unfold MD
      rw [← h1, List.getD_eq_getElem?_getD, List.getElem?_map, hx]
      rfl
    rw [hmd]
    unfold MtE
    rw [hz]
    refine Met.ofW (cc := x.1.1.2.1) (maxL := x.1.1.2.2.1) (ret := x.1.1.2.2.2) (h3 x hxm) rfl ?_
    intro p e s m args below meth c s₁ B hml hv
    obtain ⟨rfl, hP, hK⟩ := hv
    have hts := atoms_spec (ws := Cond.code x.1.1.1 x.1.1.2.1 x.1.1.2.2.1 x.1.1.2.2.2 :: tg) B.pre
    have hF : Fx G x.1.1 d p (headSpec (Cond.code x.1.1.1 x.1.1.2.1 x.1.1.2.2.1 x.1.1.2.2.2 :: tg) { frames := d + 1, cells := 0, slots := 0, locals := 40 * (d + 1) }).room s m (as.map (tx G)).toArray meth c :=
      ⟨⟨B.exec, B.bytes, hml, findClass_of_methodNamed B.named, fun w hw => hts w (List.mem_cons_of_mem _ hw)⟩, ⟨B.returns, B.notSynchronized, fun h => (name_of_methodNamed B.named B.method).1.trans h, hρ⟩, hK, by rw [hP.2]; exact Nat.le_add_right _ _, Nat.le_refl _, Nat.le_refl _⟩
    have hl := lv_entry (as.map (tx G)) (n := x.1.1.2.2.1) (by rw [sl_len]; exact hcat)
    rw [lva_tl] at hl
    rw [lg_entry_eq]
    exact rn_sound hF (h2 x hxm) ih r h' n 0 (lvx 0 as) [] h hr s.heap [] _ hP va_S.rf hl
