/-! THE CHECKER: the run; what it accepts, ends -/
theorem rn_mono {C C' : aS} (hC : ∀ mid as h r h', C mid as h r h' → C' mid as h r h') {pr : aP} : ∀ (n pc : Nat) (lv : aL) (st : List aV) (h : aH) (r : Option Value) (h' : aH), rn C pr n pc lv st h r h' → rn C' pr n pc lv st h r h' := by
  intro n
  induction n with
  | zero => intro pc lv st h r h' hr; exact hr.elim
  | succ n ih =>
    intro pc lv st h r h' hr
    unfold rn at hr ⊢
    split at hr
    · exact hr.elim
    · rename_i op hop
      split at hr
      · rename_i hx
        try rw [hx]
        exact ih _ _ _ _ _ _ hr
      · rename_i hx
        try rw [hx]
        obtain ⟨hm, r1, h1, c1, k1⟩ := hr
        exact ⟨hm, r1, h1, hC _ _ _ _ _ c1, ih _ _ _ _ _ _ k1⟩
      · rename_i hx
        try rw [hx]
        exact hr
      · exact hr.elim
theorem Rl_s {LL : List ((aM × Nat × Nat) × aP)} : ∀ (d mid : Nat) (as : List aV) (h : aH) (r : Option Value) (h' : aH), Rl LL d mid as h r h' → Rl LL (d + 1) mid as h r h' := by
  intro d
  induction d with
  | zero => intro mid as h r h' hr; exact hr.elim
  | succ d ih =>
    intro mid as h r h' hr
    obtain ⟨x, n, h1, h2, h3, h4⟩ := hr
    exact ⟨x, n, h1, h2, h3, rn_mono ih n 0 _ _ h r h' h4⟩
theorem Rl_le {LL : List ((aM × Nat × Nat) × aP)} {d : Nat} : ∀ {e : Nat}, d ≤ e → ∀ {mid : Nat} {as : List aV} {h : aH} {r : Option Value} {h' : aH}, Rl LL d mid as h r h' → Rl LL e mid as h r h'
  | 0, he, mid, as, h, r, h', hr => by
    have : d = 0 := Nat.le_zero.mp he
    subst this
    exact hr
  | e + 1, he, mid, as, h, r, h', hr => by
    by_cases q : d = e + 1
    · subst q; exact hr
    · exact Rl_s e mid as h r h' (Rl_le (show d ≤ e by omega) hr)
-- measures
def evl (σ : Nat → Int) : List (Int × Nat) → Int
  | [] => 0
  | q :: t => q.1 * σ q.2 + evl σ t
def zcol (i : Nat) : List (Int × Nat) → (Int → List (Int × Nat) → Bool) → Bool
  | [], k => k 0 []
  | q :: t, k => match Nat.beq q.2 i with
    | true => zcol i t (fun c r => frZ (q.1 + c) (fun c => k c r))
    | false => zcol i t (fun c r => k c (q :: r))
theorem zcol_ok {i : Nat} : ∀ (ts : List (Int × Nat)) (k : Int → List (Int × Nat) → Bool), zcol i ts k = true → ∃ c r, k c r = true ∧ ∀ σ, evl σ ts = c * σ i + evl σ r
  | [], k, h => ⟨0, [], h, fun σ => by show (0 : Int) = 0 * σ i + 0; omega⟩
  | q :: t, k, h => by
    rw [zcol] at h
    split at h
    · rename_i hb
      obtain ⟨c, r, h1, h2⟩ := zcol_ok t _ h
      rw [frZ_eq] at h1
      refine ⟨_, r, h1, fun σ => ?_⟩
      rw [evl, h2 σ, Nat.eq_of_beq_eq_true hb, Int.add_mul]
      omega
    · obtain ⟨c, r, h1, h2⟩ := zcol_ok t _ h
      refine ⟨c, _, h1, fun σ => ?_⟩
      rw [evl, evl, h2 σ]
      omega
def zlb (B : zB) : Nat → List (Int × Nat) → Int → Bool
  | _, [], c => ile 0 c
  | 0, _ :: _, _ => false
  | f + 1, q :: t, c => zcol q.2 t (fun c' r => frZ (q.1 + c') (fun w => match ieq w 0 with
    | true => zlb B f r c
    | false => match zr B q.2 with
      | some p => match ile 0 w with
        | true => frZ (c + w * p.1) (fun c => zlb B f r c)
        | false => frZ (c + w * p.2) (fun c => zlb B f r c)
      | none => false))
theorem zlb_ok {B : zB} : ∀ (f : Nat) (ts : List (Int × Nat)) (c : Int), zlb B f ts c = true → ∀ σ, mB σ B → σ 1 = 0 → 0 ≤ c + evl σ ts
  | 0, [], c, h, σ, _, _ => by
    have := ile_le (show ile 0 c = true from h)
    show 0 ≤ c + 0
    omega
  | f + 1, [], c, h, σ, _, _ => by
    have := ile_le (show ile 0 c = true from h)
    show 0 ≤ c + 0
    omega
  | 0, _ :: _, c, h, σ, _, _ => by cases h
  | f + 1, q :: t, c, h, σ, hB, h1 => by
    rw [zlb] at h
    obtain ⟨c', r, hk, e⟩ := zcol_ok t _ h
    rw [frZ_eq] at hk
    have ev : evl σ (q :: t) = (q.1 + c') * σ q.2 + evl σ r := by
      rw [evl, e σ, Int.add_mul]
      omega
    rw [ev]
    split at hk
    · rename_i z
      have z := ieq_eq z
      have := zlb_ok f r c hk σ hB h1
      rw [z]
      omega
    · split at hk
      · rename_i p hp
        have o := zr_ok hB h1 hp
        split at hk
        · rename_i z
          have z := ile_le z
          rw [frZ_eq] at hk
          have := zlb_ok f r _ hk σ hB h1
          have := Int.mul_le_mul_of_nonneg_left o.1 z
          omega
        · rename_i z
          have z := ile_f z
          rw [frZ_eq] at hk
          have := zlb_ok f r _ hk σ hB h1
          have := Int.mul_le_mul_of_nonpos_left (a := q.1 + c') (by omega) o.2
          omega
      · cases hk
/-- a pattern's terms in the state's symbols, times g, ahead of others -/
def zsb (th : zH) (g : Int) : List (Int × Nat) → List (Int × Nat) → Int → (List (Int × Nat) → Int → Bool) → Bool
  | [], acc, c, k => k acc c
  | q :: t, acc, c, k => match zlt th q.2 with
    | some p => frZ (g * q.1) (fun w => frZ (c + w * p.2) (fun c => zsb th g t ((w, p.1) :: acc) c k))
    | none => false
theorem zsb_ok {th : zH} {g : Int} : ∀ (ts acc : List (Int × Nat)) (c : Int) (k : List (Int × Nat) → Int → Bool), zsb th g ts acc c k = true → ∃ ts' c', k ts' c' = true ∧ ∀ σ σT, TH σ σT th → c' + evl σ ts' = c + evl σ acc + g * evl σT ts
  | [], acc, c, k, h => ⟨acc, c, h, fun σ σT _ => by rw [evl, Int.mul_zero]; omega⟩
  | q :: t, acc, c, k, h => by
    rw [zsb] at h
    split at h
    · rename_i p hp
      rw [frZ_eq, frZ_eq] at h
      obtain ⟨ts', c', h1, h2⟩ := zsb_ok t _ _ k h
      refine ⟨ts', c', h1, fun σ σT hT => ?_⟩
      rw [h2 σ σT hT, evl, evl, hT _ _ hp, Int.mul_add, Int.mul_add, Int.mul_add, ← Int.mul_assoc, ← Int.mul_assoc]
      dsimp only
      omega
    · cases h
-- the parts of a check
abbrev zP : Type := List (Nat × List (Nat × zT))
/-- method, depth, entry's pattern, answer's pattern, places that may change -/
abbrev zSm : Type := Nat × Nat × zS × zS × List Nat
/-- method, place, pattern, frames below, measure -/
abbrev zNd : Type := Nat × Nat × zS × List zG × Int × List (Int × Nat)
/-- method, place; local (0), stack (1) or cell (2); where; each value (none) or up to it and above (some) -/
abbrev zSp : Type := Nat × Nat × Nat × Nat × Nat × Option Int
def zlkp : List (Nat × zT) → Nat → Option zT
  | [], _ => none
  | q :: t, pc => match Nat.beq q.1 pc with
    | true => some q.2
    | false => zlkp t pc
def zlk : zP → Nat → Option zT
  | [], _ => none
  | b :: t, pc => match Nat.ble pc b.1 with
    | true => zlkp b.2 pc
    | false => zlk t pc
def zdec (B : zB) (th : zH) (c0 : Int) (t0 : List (Int × Nat)) (c1 : Int) (t1 : List (Int × Nat)) : Bool := match zsb th 1 t1 [] c1 (fun ts c => zlb B 20 ts c) with
  | true => zsb th (-1) t1 t0 (c0 - c1 - 1) (fun ts c => zlb B 20 ts c)
  | false => false
theorem zdec_ok {B : zB} {th : zH} {c0 : Int} {t0 : List (Int × Nat)} {c1 : Int} {t1 : List (Int × Nat)} (h : zdec B th c0 t0 c1 t1 = true) {σ σT : Nat → Int} (hB : mB σ B) (h1 : σ 1 = 0) (hT : TH σ σT th) : 0 ≤ c1 + evl σT t1 ∧ c1 + evl σT t1 < c0 + evl σ t0 := by
  unfold zdec at h
  split at h
  · rename_i q
    obtain ⟨ts, c, q1, q2⟩ := zsb_ok _ _ _ _ q
    obtain ⟨ts', c', q3, q4⟩ := zsb_ok _ _ _ _ h
    have a := zlb_ok _ _ _ q1 σ hB h1
    have b := zlb_ok _ _ _ q3 σ hB h1
    have e := q2 σ σT hT
    have e' := q4 σ σT hT
    rw [show evl σ ([] : List (Int × Nat)) = 0 from rfl] at e
    omega
  · cases h
def znode : List zNd → Nat → Nat → zS → List zG → Int → List (Int × Nat) → Bool
  | [], _, _, _, _, _, _ => false
  | nd :: t, mid, pc, s, fs, c0, t0 => match Nat.beq nd.1 mid, Nat.beq nd.2.1 pc with
    | true, true => match zin nd.2.2.1 nd.2.2.2.1 s.1 s.2.1 s.2.2.1 s.2.2.2.1 s.2.2.2.2.1 fs (fun th => zdec s.2.2.2.1 th c0 t0 nd.2.2.2.2.1 nd.2.2.2.2.2) with
      | true => true
      | false => znode t mid pc s fs c0 t0
    | _, _ => znode t mid pc s fs c0 t0
theorem znode_ok : ∀ {ND : List zNd} {mid pc : Nat} {s : zS} {fs : List zG} {c0 : Int} {t0 : List (Int × Nat)}, znode ND mid pc s fs c0 t0 = true → ∃ nd ∈ ND, nd.1 = mid ∧ nd.2.1 = pc ∧ zin nd.2.2.1 nd.2.2.2.1 s.1 s.2.1 s.2.2.1 s.2.2.2.1 s.2.2.2.2.1 fs (fun th => zdec s.2.2.2.1 th c0 t0 nd.2.2.2.2.1 nd.2.2.2.2.2) = true
  | [], mid, pc, s, fs, c0, t0, h => by cases h
  | nd :: t, mid, pc, s, fs, c0, t0, h => by
    rw [znode] at h
    split at h
    · rename_i q1 q2
      split at h
      · rename_i q3
        exact ⟨nd, List.mem_cons_self, Nat.eq_of_beq_eq_true q1, Nat.eq_of_beq_eq_true q2, q3⟩
      · obtain ⟨nd', m, r⟩ := znode_ok h
        exact ⟨nd', List.mem_cons_of_mem _ m, r⟩
    · obtain ⟨nd', m, r⟩ := znode_ok h
      exact ⟨nd', List.mem_cons_of_mem _ m, r⟩
def zisn : List (Nat × Nat) → Nat → Nat → Bool
  | [], _, _ => false
  | q :: t, mid, pc => match Nat.beq q.1 mid, Nat.beq q.2 pc with
    | true, true => true
    | _, _ => zisn t mid pc
/-- the value that is to be split -/
def zsv (s : zS) (sel a b : Nat) : Option zV := match sel with
  | 0 => lz s.1 a
  | 1 => s.2.1[a]?
  | _ => match zg s.2.2.1 a with
    | some (.inl L) => match L[b]? with
      | some (.inr v) => some v
      | _ => none
    | some (.inr (.inr (.inr (.inr (_, L))))) => match L[b]? with
      | some (.inr v) => some v
      | _ => none
    | _ => none
theorem zsv_ok {K : zK} {σ : Nat → Int} {s : zS} {lv : aL} {sc : List aV} {h : aH} (H : ms K σ s lv sc h) {sel a b : Nat} {v : zV} (hv : zsv s sel a b = some v) : ∀ τ, ag s.2.2.2.2.2 σ τ → cv τ v = cv σ v := by
  obtain ⟨l, st, hp, B, F, n⟩ := s
  unfold zsv at hv
  split at hv
  · exact H.lvc hv
  · intro τ hτ
    have e := (H.st σ ag.rf).symm.trans (H.st τ hτ)
    have e := congrArg (fun l : List aV => l[a]?) e
    dsimp only at e hv
    unfold cs at e
    rw [List.getElem?_map, List.getElem?_map, hv] at e
    exact (Sum.inl.inj (Option.some.inj e)).symm
  · intro τ hτ
    split at hv
    · rename_i L hg
      split at hv
      · rename_i v' hb
        cases hv
        obtain ⟨x, hx, mx⟩ := H.hp σ ag.rf a _ hg
        obtain ⟨la, rfl, ll, H1⟩ := mc_ints mx
        obtain ⟨x', hx', mx'⟩ := H.hp τ hτ a _ hg
        rw [hx] at hx'
        cases hx'
        have lb : b < la.length := by rw [← ll]; exact (List.getElem?_eq_some_iff.mp hb).1
        have p := H1 b _ _ hb (List.getElem?_eq_getElem lb)
        have q := mx'.2 b _ _ hb (List.getElem?_eq_getElem lb)
        exact (show Value.int _ = cv τ v from q).symm.trans p
      · cases hv
    · rename_i ci L hg
      split at hv
      · rename_i v' hb
        cases hv
        obtain ⟨x, hx, mx⟩ := H.hp σ ag.rf a _ hg
        obtain ⟨fs, rfl, ll, H1⟩ := mc_obj mx
        obtain ⟨x', hx', mx'⟩ := H.hp τ hτ a _ hg
        rw [hx] at hx'
        cases hx'
        have lb : b < fs.length := by rw [← ll]; exact (List.getElem?_eq_some_iff.mp hb).1
        have p := H1 b _ _ hb (List.getElem?_eq_getElem lb)
        have q := mx'.2.2 b _ _ hb (List.getElem?_eq_getElem lb)
        exact (show _ = cv τ v from q).symm.trans p
      · cases hv
    · cases hv
/-- each number from c on, so many of them -/
def zeach (B : zB) (F : List zF) (v : zV) (k : zB → List zF → Bool) : Nat → Int → Bool
  | 0, _ => true
  | n + 1, c => match zrf 2 B F v.2.1 v.2.2 1 c k with
    | true => frZ (c + 1) (fun c => zeach B F v k n c)
    | false => false
theorem zeach_ok {B : zB} {F : List zF} {v : zV} {k : zB → List zF → Bool} : ∀ (n : Nat) (c : Int), zeach B F v k n c = true → ∀ z : Int, c ≤ z → z < c + n → zrf 2 B F v.2.1 v.2.2 1 z k = true
  | 0, c, _, z, h1, h2 => by omega
  | n + 1, c, h, z, h1, h2 => by
    rw [zeach] at h
    split at h
    · rename_i q
      rw [frZ_eq] at h
      by_cases e : z = c
      · rw [e]; exact q
      · exact zeach_ok n (c + 1) h z (by omega) (by omega)
    · cases h
def zsp1 (s : zS) (q : zSp) (k : zS → Bool) : Bool := match s with
  | (l, st, hp, B, F, n) => match zsv (l, st, hp, B, F, n) q.2.2.1 q.2.2.2.1 q.2.2.2.2.1 with
    | none => k (l, st, hp, B, F, n)
    | some v => zI B v (fun lo hi => match q.2.2.2.2.2 with
      | none => match ile (hi - lo) 100 with
        | true => frN ((hi - lo).toNat + 1) (fun m => zeach B F v (fun B F => k (l, st, hp, B, F, n)) m lo)
        | false => false
      | some c => match zrf 1 B F v.2.1 v.2.2 1 c (fun B F => k (l, st, hp, B, F, n)) with
        | true => zrf 4 B F v.2.1 v.2.2 1 c (fun B F => k (l, st, hp, B, F, n))
        | false => false)
theorem zsp1_ok {K : zK} {σ : Nat → Int} {s : zS} {lv : aL} {sc : List aV} {h : aH} (H : ms K σ s lv sc h) {q : zSp} {k : zS → Bool} (hk : zsp1 s q k = true) : ∃ s', k s' = true ∧ ms K σ s' lv sc h ∧ s'.2.2.2.2.2 = s.2.2.2.2.2 := by
  obtain ⟨l, st, hp, B, F, n⟩ := s
  unfold zsp1 at hk
  dsimp only at hk
  split at hk
  · exact ⟨_, hk, H, rfl⟩
  · rename_i v hv
    obtain ⟨lo, hi, hk, xx, ex, x1, x2, Tx⟩ := zI_st H (zsv_ok H hv) hk
    have fin : ∀ (R : Nat) (c : Int), rel R xx.toInt c → zrf R B F v.2.1 v.2.2 1 c (fun B F => k (l, st, hp, B, F, n)) = true → ∃ s', k s' = true ∧ ms K σ s' lv sc h ∧ s'.2.2.2.2.2 = n := fun R c hr hz => by
      obtain ⟨B', F', hk, hb⟩ := zrf_ok hz (P := ag n σ) (fun τ hτ => ⟨(H.bf τ hτ).1, (H.bf τ hτ).2.1, (H.bf τ hτ).2.2, by
        rw [Tx τ hτ, (H.bf τ hτ).2.2, Int.zero_add]
        exact hr⟩) σ ag.rf
      exact ⟨_, hk, ms_bf H hb H.st, rfl⟩
    split at hk
    · split at hk
      · rw [frN_eq] at hk
        exact fin 2 xx.toInt rfl (zeach_ok _ _ hk _ x1 (by omega))
      · cases hk
    · rename_i c _
      split at hk
      · rename_i h1
        by_cases e : xx.toInt ≤ c
        · exact fin 1 c e h1
        · exact fin 4 c (Int.not_le.mp e) hk
      · cases hk
def zspl : List zSp → Nat → Nat → zS → (zS → Bool) → Bool
  | [], _, _, s, k => k s
  | q :: t, mid, pc, s, k => match Nat.beq q.1 mid, Nat.beq q.2.1 pc with
    | true, true => zsp1 s q (fun s => zspl t mid pc s k)
    | _, _ => zspl t mid pc s k
theorem zspl_ok {K : zK} {σ : Nat → Int} {mid pc : Nat} {lv : aL} {sc : List aV} {h : aH} {k : zS → Bool} : ∀ (SP : List zSp) (s : zS), ms K σ s lv sc h → zspl SP mid pc s k = true → ∃ s', k s' = true ∧ ms K σ s' lv sc h ∧ s'.2.2.2.2.2 = s.2.2.2.2.2
  | [], s, H, hk => ⟨s, hk, H, rfl⟩
  | q :: t, s, H, hk => by
    rw [zspl] at hk
    split at hk
    · obtain ⟨s1, h1, H1, e1⟩ := zsp1_ok H hk
      obtain ⟨s2, h2, H2, e2⟩ := zspl_ok t s1 H1 h1
      exact ⟨s2, h2, H2, e2.trans e1⟩
    · exact zspl_ok t s H hk
def zlvx {β : Type} : Nat → List zV → (List (Nat × zV) → β) → β
  | _, [], k => k []
  | i, v :: t, k => match Nat.beq (zct v) 2 with
    | true => frN (i + 2) (fun j => zlvx j t (fun r => k ((i, v) :: r)))
    | false => frN (i + 1) (fun j => zlvx j t (fun r => k ((i, v) :: r)))
theorem zlvx_ok {β : Type} : ∀ (as : List zV) (i : Nat) (k : List (Nat × zV) → β), ∃ l, zlvx i as k = k l ∧ ∀ σ, mL σ l (lvx i (cs σ as))
  | [], i, k => ⟨[], rfl, fun σ j v h => by cases h⟩
  | v :: t, i, k => by
    rw [zlvx]
    have step : ∀ (l : List (Nat × zV)) (σ : Nat → Int) (j : Nat), (if ac (.inl (cv σ v)) = 2 then i + 2 else i + 1) = j → mL σ l (lvx j (cs σ t)) → mL σ ((i, v) :: l) (lvx i (cs σ (v :: t))) := fun l σ j hj hl i' v' h => by
      rw [cs_cons, lvx, hj, lk]
      rw [lz] at h
      dsimp only at h ⊢
      split at h
      · rename_i hb
        cases h
        rw [hb]
      · rename_i hb
        rw [hb]
        exact hl i' v' h
    split
    · rename_i hb
      have hb := Nat.eq_of_beq_eq_true hb
      rw [frN_eq]
      obtain ⟨l, h1, h2⟩ := zlvx_ok t (i + 2) (fun r => k ((i, v) :: r))
      exact ⟨(i, v) :: l, h1, fun σ => step l σ (i + 2) (by rw [ac_cv, hb, if_pos rfl]) (h2 σ)⟩
    · rename_i hb
      rw [frN_eq]
      obtain ⟨l, h1, h2⟩ := zlvx_ok t (i + 1) (fun r => k ((i, v) :: r))
      refine ⟨(i, v) :: l, h1, fun σ => step l σ (i + 1) ?_ (h2 σ)⟩
      rw [ac_cv, if_neg]
      intro e
      rw [e] at hb
      cases hb
def zhas : List zSm → Nat → Bool
  | [], _ => false
  | q :: t, m => match Nat.beq q.1 m with
    | true => true
    | false => zhas t m
def zcl (SS : List zSm) (d m2 : Nat) (md : List Nat) (el : List (Nat × zV)) (s : zS) (k : zS → Bool) : Bool := match SS with
  | [] => false
  | q :: t => match Nat.beq q.1 m2 with
    | true => match Nat.ble q.2.1 d, zsubs q.2.2.2.2 md, zin q.2.2.1 [] el [] s.2.2.1 s.2.2.2.1 s.2.2.2.2.1 [] (fun _ => true) with
      | true, true, true => zaf q.2.2.2.1 q.2.2.2.2 s k
      | _, _, _ => zcl t d m2 md el s k
    | false => zcl t d m2 md el s k
theorem zcl_ok {d m2 : Nat} {md : List Nat} {el : List (Nat × zV)} {s : zS} {k : zS → Bool} : ∀ {SS : List zSm}, zcl SS d m2 md el s k = true → ∃ q ∈ SS, q.1 = m2 ∧ q.2.1 ≤ d ∧ zsubs q.2.2.2.2 md = true ∧ zin q.2.2.1 [] el [] s.2.2.1 s.2.2.2.1 s.2.2.2.2.1 [] (fun _ => true) = true ∧ zaf q.2.2.2.1 q.2.2.2.2 s k = true
  | [], h => by cases h
  | q :: t, h => by
    rw [zcl] at h
    split at h
    · rename_i q1
      split at h
      · rename_i q2 q3 q4
        exact ⟨q, List.mem_cons_self, Nat.eq_of_beq_eq_true q1, Nat.le_of_ble_eq_true q2, q3, q4, h⟩
      · obtain ⟨q', m, r⟩ := zcl_ok h
        exact ⟨q', List.mem_cons_of_mem _ m, r⟩
    · obtain ⟨q', m, r⟩ := zcl_ok h
      exact ⟨q', List.mem_cons_of_mem _ m, r⟩
