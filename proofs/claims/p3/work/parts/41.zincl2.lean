/-! THE CHECKER: a state is one that a pattern speaks of, the whole -/
def okE : zE → Bool
  | .inl _ => true
  | .inr (0, 0, _) => true
  | .inr (2, _, _) => true
  | _ => false
def okEs : List zE → Bool
  | [] => true
  | e :: t => match okE e with
    | true => okEs t
    | false => false
def okC : zC → Bool
  | .inl L => okEs L
  | .inr (.inr (.inr (.inr (_, L)))) => okEs L
  | _ => true
def okO : Option zC → Bool
  | some c => okC c
  | none => true
theorem okE_ok {e : zE} (h : okE e = true) {σ τ : Nat → Int} (h0 : τ 0 = σ 0) {y : Value} (hy : me σ e y) : me τ e y := by
  rcases e with q | ⟨t, i, a⟩
  · exact hy
  · match t, i, h, hy with
    | 0, 0, _, hy =>
      show y = Value.int (Int32.ofInt (τ 0 + a))
      rw [h0]
      exact hy
    | 2, i, _, hy => exact hy
theorem okEs_ok : ∀ {L : List zE}, okEs L = true → ∀ (i : Nat) (e : zE), L[i]? = some e → okE e = true
  | [], _, i, e, h => by simp at h
  | a :: t, h, i, e, he => by
    rw [okEs] at h
    split at h
    · rename_i q
      match i, he with
      | 0, he => cases he; exact q
      | i + 1, he => exact okEs_ok h i e he
    · cases h
theorem okC_ok {c : zC} (h : okC c = true) {σ τ : Nat → Int} (h0 : τ 0 = σ 0) {x : aE} (hx : mc σ c x) : mc τ c x := by
  rcases c with L | q | q | q | ⟨ci, L⟩
  · obtain ⟨l, rfl, ll, H⟩ := mc_ints hx
    exact ⟨ll, fun i e y he hy => okE_ok (okEs_ok h i e he) h0 (H i e y he hy)⟩
  · rcases x with l | x <;> exact hx
  · rcases x with l | l | x <;> exact hx
  · rcases x with l | l | l | x <;> exact hx
  · obtain ⟨fs, rfl, ll, H⟩ := mc_obj hx
    exact ⟨rfl, ll, fun i e y he hy => okE_ok (okEs_ok h i e he) h0 (H i e y he hy)⟩
theorem zHI_ok : zHI.all okO = true := by decide +kernel
theorem zD_ok {p : Nat} {c : zC} (h : zD p = some c) : okC c = true := by
  unfold zD at h
  split at h
  · rename_i c' hc
    cases h
    exact List.all_eq_true.mp zHI_ok _ (List.mem_of_getElem? hc)
  · cases h
-- facts
def zfb (B : zB) (th : zH) : zB → Bool
  | [] => true
  | q :: t => match zlt th q.1 with
    | some r => zvF B (0, r.1, r.2) (fun a b => match ile q.2.1 a, ile b q.2.2 with
      | true, true => zfb B th t
      | _, _ => false)
    | none => false
theorem zfb_ok {B : zB} {th : zH} : ∀ {tB : zB}, zfb B th tB = true → ∀ σ σT, mB σ B → σ 1 = 0 → TH σ σT th → mB σT tB
  | [], _, σ, σT, _, _, _ => fun b hb => absurd hb List.not_mem_nil
  | q :: t, h, σ, σT, h1, h2, h3 => by
    rw [zfb] at h
    split at h
    · rename_i r hr
      obtain ⟨a, b, hk, H⟩ := zvF_ok h
      split at hk
      · rename_i q1 q2
        have q1 := ile_le q1
        have q2 := ile_le q2
        intro c hc
        rcases List.mem_cons.mp hc with rfl | hc
        · have e := h3 _ _ hr
          have o := H σ h1 h2
          dsimp only at o
          omega
        · exact zfb_ok hk σ σT h1 h2 h3 c hc
      · cases hk
    · cases h
def zm4 : List zF → Nat → Nat → Nat → Bool
  | [], _, _, _ => false
  | f :: t, i, j, w => match Nat.beq f.1 4, Nat.beq f.2.1 i, Nat.beq f.2.2.1 j, Nat.beq f.2.2.2.1 w with
    | true, true, true, true => true
    | _, _, _, _ => zm4 t i j w
theorem zm4_ok {σ : Nat → Int} : ∀ {F : List zF} {i j w : Nat}, hFs σ F → zm4 F i j w = true → σ w ≤ 24 * σ i - 4 * σ j
  | [], i, j, w, _, h => by cases h
  | f :: t, i, j, w, hF, h => by
    rw [zm4] at h
    split at h
    · rename_i a b c d
      have a' := Nat.eq_of_beq_eq_true a
      have b' := Nat.eq_of_beq_eq_true b
      have c' := Nat.eq_of_beq_eq_true c
      have d' := Nat.eq_of_beq_eq_true d
      clear a b c d
      obtain ⟨f1, f2, f3, f4, f5⟩ := f
      dsimp only at a' b' c' d'
      subst a' b' c' d'
      exact hF _ List.mem_cons_self
    · exact zm4_ok (fun f hf => hF f (List.mem_cons_of_mem _ hf)) h
def zf1 (B : zB) (F : List zF) (th : zH) (f : zF) : Bool := match f with
  | (3, i, j, _, d) => match zlt th i, zlt th j with
    | some p, some q => match zf3 F p.1 q.1 with
      | some e => ile (q.2 + d - p.2) e
      | none => zvF B (0, p.1, p.2) (fun a _ => zvF B (0, q.1, q.2) (fun _ b => ile (b + d) a))
    | _, _ => false
  | (4, i, j, w, _) => match zlt th i, zlt th j, zlt th w with
    | some p, some q, some r => match zm4 F p.1 q.1 r.1, ieq p.2 0, ieq q.2 0, ieq r.2 0 with
      | true, true, true, true => true
      | _, _, _, _ => zvF B (0, p.1, p.2) (fun a _ => zvF B (0, q.1, q.2) (fun _ b => zvF B (0, r.1, r.2) (fun _ c => ile c (24 * a - 4 * b))))
    | _, _, _ => false
  | _ => false
theorem zf1_ok {B : zB} {F : List zF} {th : zH} {f : zF} (h : zf1 B F th f = true) {σ σT : Nat → Int} (h1 : mB σ B) (h2 : σ 1 = 0) (hF : hFs σ F) (h3 : TH σ σT th) : hf σT f := by
  unfold zf1 at h
  split at h
  · rename_i i j x d
    split at h
    · rename_i p q hp hq
      have ep := h3 _ _ hp
      have eq := h3 _ _ hq
      show σT j + d ≤ σT i
      split at h
      · rename_i e he
        have := zf3_ok hF he
        have := ile_le h
        omega
      · obtain ⟨a, b, h, H1⟩ := zvF_ok h
        obtain ⟨a', b', h, H2⟩ := zvF_ok h
        have o1 := H1 σ h1 h2
        have o2 := H2 σ h1 h2
        have := ile_le h
        dsimp only at o1 o2
        omega
    · cases h
  · rename_i i j x d
    split at h
    · rename_i p q r hp hq hr
      have ep := h3 _ _ hp
      have eq := h3 _ _ hq
      have er := h3 _ _ hr
      show σT x ≤ 24 * σT i - 4 * σT j
      split at h
      · rename_i m e1 e2 e3
        have := zm4_ok hF m
        have := ieq_eq e1
        have := ieq_eq e2
        have := ieq_eq e3
        omega
      · obtain ⟨a, b, h, H1⟩ := zvF_ok h
        obtain ⟨a', b', h, H2⟩ := zvF_ok h
        obtain ⟨a'', b'', h, H3⟩ := zvF_ok h
        have o1 := H1 σ h1 h2
        have o2 := H2 σ h1 h2
        have o3 := H3 σ h1 h2
        have := ile_le h
        dsimp only at o1 o2 o3
        omega
    · cases h
  · cases h
def zff (B : zB) (F : List zF) (th : zH) : List zF → Bool
  | [] => true
  | f :: t => match zf1 B F th f with
    | true => zff B F th t
    | false => false
theorem zff_ok {B : zB} {F : List zF} {th : zH} : ∀ {tF : List zF}, zff B F th tF = true → ∀ σ σT, mB σ B → σ 1 = 0 → hFs σ F → TH σ σT th → hFs σT tF
  | [], _, σ, σT, _, _, _, _ => fun b hb => absurd hb List.not_mem_nil
  | f :: t, h, σ, σT, h1, h2, hF, h3 => by
    rw [zff] at h
    split at h
    · rename_i q
      exact hFs_cons (zf1_ok q h1 h2 hF h3) (zff_ok h σ σT h1 h2 hF h3)
    · cases h
-- frames below
abbrev zG : Type := Nat × Nat × List (Nat × zV) × List zV
abbrev aFr : Type := Nat × Nat × aL × List aV
def mFr (σ : Nat → Int) (G : zG) (C : aFr) : Prop := C.1 = G.1 ∧ C.2.1 = G.2.1 ∧ mL σ G.2.2.1 C.2.2.1 ∧ C.2.2.2 = cs σ G.2.2.2
def mFs (σ : Nat → Int) : List zG → List aFr → Prop
  | [], [] => True
  | G :: g, C :: c => mFr σ G C ∧ mFs σ g c
  | _, _ => False
def zmF (B : zB) (n : Nat) : List zG → List zG → zH → (zH → Bool) → Bool
  | [], [], th, k => k th
  | a :: s, b :: t, th, k => match Nat.beq a.1 b.1, Nat.beq a.2.1 b.2.1 with
    | true, true => zml B n b.2.2.1 a.2.2.1 th (fun th => zms B n a.2.2.2 b.2.2.2 th (fun th => zmF B n s t th k))
    | _, _ => false
  | _, _, _, _ => false
theorem zmF_ok {B : zB} {n : Nat} : ∀ (s t : List zG) (th : zH) (k : zH → Bool), zmF B n s t th k = true → ZM B n th k (fun σ σT => ∀ c, mFs σ t c → mFs σT s c)
  | [], [], th, k, h => ZM.pure h (fun σ σT _ _ _ _ c hc => by
    cases c with
    | nil => exact True.intro
    | cons a b => exact hc.elim)
  | a :: s, b :: t, th, k, h => by
    rw [zmF] at h
    split at h
    · rename_i q1 q2
      have q1 := Nat.eq_of_beq_eq_true q1
      have q2 := Nat.eq_of_beq_eq_true q2
      refine (zml_ok _ _ _ h).tr (fun th1 hk1 => (zms_ok _ _ _ _ hk1).tr (R := fun σ σT => cs σT a.2.2.2 = cs σ b.2.2.2 ∧ ∀ c, mFs σ t c → mFs σT s c) (fun th' hk => zmF_ok s t th' k hk) (fun σ σT x y => ⟨x, y⟩)) (fun σ σT h1 h2 c hc => ?_)
      cases c with
      | nil => exact hc.elim
      | cons C c =>
        obtain ⟨⟨e1, e2, e3, e4⟩, hc⟩ := hc
        refine ⟨⟨e1.trans q1.symm, e2.trans q2.symm, fun i v hv => ?_, e4.trans h2.1.symm⟩, h2.2 c hc⟩
        obtain ⟨sv, hs, e⟩ := h1 i v hv
        rw [e]
        exact e3 i sv hs
    · cases h
  | [], _ :: _, th, k, h => by cases h
  | _ :: _, [], th, k, h => by cases h
/-- the whole: pattern T with frames tf; the state's parts -/
def zin (T : zS) (tf : List zG) (l : List (Nat × zV)) (st : List zV) (hp : List (Nat × zC)) (B : zB) (F : List zF) (fs : List zG) (k : zH → Bool) : Bool := match T with
  | (tl, ts, tp, tB, tF, tn) => match Nat.ble 2 tn with
    | true => zml B tn l tl [(0, 0, 0)] (fun th => zms B tn ts st th (fun th => zmF B tn tf fs th (fun th => zm1 B tn hp tp th (fun th => zm2 B tn tp hp th (fun th => match zfb B th tB, zff B F th tF with
      | true, true => k th
      | _, _ => false)))))
    | false => false
theorem zin_ok {K K' : zK} {σ : Nat → Int} {l : List (Nat × zV)} {st : List zV} {hp : List (Nat × zC)} {B : zB} {F : List zF} {n : Nat} {lv : aL} {sc : List aV} {h : aH} (H : ms K σ (l, st, hp, B, F, n) lv sc h) {fs : List zG} {cf : List aFr} (HF : mFs σ fs cf) {T : zS} {tf : List zG} {k : zH → Bool} (hk : zin T tf l st hp B F fs k = true) (hK : K'.1 = K.1) (hfr : ∀ p, p ∉ K'.2.2 → h[p]? = K'.2.1[p]?) : ∃ th σT, k th = true ∧ TH σ σT th ∧ ms K' σT T lv sc h ∧ ∀ τ, ag T.2.2.2.2.2 σT τ → mFs τ tf cf := by
  obtain ⟨tl, ts, tp, tB, tF, tn⟩ := T
  unfold zin at hk
  dsimp only at hk
  split at hk
  · rename_i h2
    have h2 := Nat.le_of_ble_eq_true h2
    have Z := (zml_ok _ _ _ hk).tr (R := fun σ σT => (∀ (i : Nat) (v : zV), lz tl i = some v → ∃ sv, lz l i = some sv ∧ cv σT v = cv σ sv) ∧ cs σT ts = cs σ st ∧ (∀ c, mFs σ fs c → mFs σT tf c) ∧ (mB σ B → σ 1 = 0 → ∀ (p : Nat) (c : zC), zlc tp p = some c → ∃ d, zg hp p = some d ∧ ∀ x, mc σ d x → mc σT c x) ∧ (mB σ B → σ 1 = 0 → ∀ (p : Nat) (c d : zC), zlc tp p = none → zD p = some c → zlc hp p = some d → ∀ x, mc σ d x → mc σT c x)) (fun th1 k1 => (zms_ok _ _ _ _ k1).tr (fun th2 k2 => (zmF_ok _ _ _ _ k2).tr (fun th3 k3 => (zm1_ok _ _ _ k3).tr (fun th4 k4 => zm2_ok _ _ _ k4) (fun σ σT a b => ⟨a, b⟩)) (fun σ σT a b => ⟨a, b⟩)) (fun σ σT a b => ⟨a, b⟩)) (fun σ σT a b => ⟨a, b⟩)
    obtain ⟨th, hk, e0, hb, P⟩ := Z (fun i q hi => by
      rw [zlt] at hi
      split at hi
      · rename_i e
        rw [← Nat.eq_of_beq_eq_true e]
        exact ⟨Nat.lt_of_lt_of_le (by decide) h2, by decide⟩
      · cases hi)
    dsimp only at hk
    split at hk
    · rename_i f1 f2
      have G := H σ ag.rf
      have z0 : zlt th 0 = some (0, 0) := e0 0 (0, 0) rfl
      refine ⟨th, fun i => match zlt th i with
        | some q => σ q.1 + q.2
        | none => 0, hk, fun i q hq => ?_, ?_⟩
      · show (match zlt th i with
          | some q => σ q.1 + q.2
          | none => 0) = _
        rw [hq]
      · have key : ∀ τ, ag tn (fun i => match zlt th i with
          | some q => σ q.1 + q.2
          | none => 0) τ → TH σ τ th ∧ τ 1 = 0 ∧ τ 0 = σ 0 := fun τ hτ => by
          refine ⟨fun i q hq => ?_, ?_, ?_⟩
          · have := hτ i (hb i q hq).1
            dsimp only at this
            rw [hq] at this
            exact this
          · have := hτ 1 (by omega)
            dsimp only at this
            cases h1 : zlt th 1 with
            | none => rw [h1] at this; exact this
            | some q => exact absurd rfl (hb 1 q h1).2
          · have := hτ 0 (by omega)
            dsimp only at this
            rw [z0] at this
            dsimp only at this
            omega
        refine ⟨fun τ hτ => ?_, fun τ hτ => ?_⟩
        · obtain ⟨t1, t2, t3⟩ := key τ hτ
          obtain ⟨p1, p2, p3, p4, p5⟩ := P σ τ G.2.2.1 G.2.2.2.2.1.1 t2 t1
          refine ⟨⟨fun i v hv => ?_, G.1.2.trans p2.symm⟩, fun p c hc => ?_, zfb_ok f1 σ τ G.2.2.1 G.2.2.2.2.1.1 t1, zff_ok f2 σ τ G.2.2.1 G.2.2.2.2.1.1 G.2.2.2.1 t1, ⟨t2, t3.trans (G.2.2.2.2.1.2.1.trans hK.symm), h2⟩, hfr⟩
          · obtain ⟨sv, hs, e⟩ := p1 i v hv
            rw [e]
            exact G.1.1 i sv hs
          · unfold zg at hc
            split at hc
            · rename_i c' hc'
              cases hc
              obtain ⟨d, hd, q⟩ := p4 G.2.2.1 G.2.2.2.2.1.1 p _ hc'
              obtain ⟨x, hx, mx⟩ := G.2.1 p d hd
              exact ⟨x, hx, q x mx⟩
            · rename_i hn
              cases hz : zlc hp p with
              | some d =>
                obtain ⟨x, hx, mx⟩ := G.2.1 p d (by unfold zg; rw [hz])
                exact ⟨x, hx, p5 G.2.2.1 G.2.2.2.2.1.1 p c d hn hc hz x mx⟩
              | none =>
                obtain ⟨x, hx, mx⟩ := G.2.1 p c (by unfold zg; rw [hz]; exact hc)
                exact ⟨x, hx, okC_ok (zD_ok hc) t3 mx⟩
        · obtain ⟨t1, t2, t3⟩ := key τ hτ
          exact (P σ τ G.2.2.1 G.2.2.2.2.1.1 t2 t1).2.2.1 cf HF
    · cases hk
  · cases hk
