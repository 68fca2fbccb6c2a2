/-! THE FRESH OBJECTS -/
def gH (x : aR) : aH := match x with
  | some (_, h) => h
  | none => []
def isN (x : aR) : Bool := match x with
  | some (none, _) => true
  | _ => false
theorem isN_eq {x : aR} (h : isN x = true) : x = some (none, gH x) := by
  match x, h with
  | some (none, h), _ => rfl
def oX : aE := .inr (.inr (.inr (4, [.null, .null, .null, .null, .null, .int 0, .int 0, .int 0, .int 0])))
def oY : aE := .inr (.inr (.inr (5, [.null, .int 0, .null, .null, .int 0, .null, .int 0, .int 0, .int 0, .int 0, .int 0, .int 0, .null, .null, .null, .null, .null, .int 0, .null, .int 0])))
def hX : aH := gH (exM LL 100000 40 62 [.inl (.ref 0)] [oX])
set_option maxRecDepth 100000 in
theorem hX_ok : isN (exM LL 100000 40 62 [.inl (.ref 0)] [oX]) = true := by decide +kernel
set_option maxRecDepth 100000 in
theorem hX_len : hX.length = 89 := by decide +kernel
def hY : aH := gH (exM LL 100000 40 95 [.inl (.ref 89)] (hX ++ [oY]))
set_option maxRecDepth 100000 in
theorem hY_ok : isN (exM LL 100000 40 95 [.inl (.ref 89)] (hX ++ [oY])) = true := by decide +kernel
-- they are as between calls, with no text
def s00 (i : Nat) : Int := match Nat.beq i 3 with
  | true => .negSucc 0
  | false => .ofNat 0
def meb (e : zE) (v : Value) : Bool := match e, v with
  | .inl (lo, hi), .int z => ile lo z.toInt && ile z.toInt hi
  | .inr (0, i, a), .int z => ieq z.toInt (s00 i + a)
  | .inr (2, p, _), .ref q => Nat.beq p q
  | _, _ => false
theorem meb_ok {e : zE} {v : Value} (h : meb e v = true) : me s00 e v := by
  unfold meb at h
  split at h
  · rename_i lo hi z
    have h := Bool.and_eq_true_iff.mp h
    exact ⟨z, rfl, ile_le h.1, ile_le h.2⟩
  · rename_i i a z
    have h := ieq_eq h
    show Value.int z = Value.int (Int32.ofInt (s00 i + a))
    rw [← h, Int32.ofInt_toInt]
  · rename_i p o q
    show Value.ref q = Value.ref p
    rw [Nat.eq_of_beq_eq_true h]
  · cases h
def mLb : List zE → List Value → Bool
  | [], [] => true
  | e :: L, v :: l => match meb e v with
    | true => mLb L l
    | false => false
  | _, _ => false
theorem mLb_ok : ∀ {L : List zE} {l : List Value}, mLb L l = true → L.length = l.length ∧ ∀ (i : Nat) (e : zE) (v : Value), L[i]? = some e → l[i]? = some v → me s00 e v
  | [], [], _ => ⟨rfl, fun i e v h => by simp at h⟩
  | e :: L, v :: l, h => by
    rw [mLb] at h
    split at h
    · rename_i q
      obtain ⟨a, b⟩ := mLb_ok h
      refine ⟨by rw [List.length_cons, List.length_cons, a], fun i e' v' he hv => ?_⟩
      match i, he, hv with
      | 0, he, hv =>
        cases he
        cases hv
        exact meb_ok q
      | i + 1, he, hv => exact b i e' v' he hv
    · cases h
  | [], _ :: _, h => by cases h
  | _ :: _, [], h => by cases h
def mIb : List zE → List Int32 → Bool
  | [], [] => true
  | e :: L, v :: l => match meb e (.int v) with
    | true => mIb L l
    | false => false
  | _, _ => false
theorem mIb_ok : ∀ {L : List zE} {l : List Int32}, mIb L l = true → L.length = l.length ∧ ∀ (i : Nat) (e : zE) (v : Int32), L[i]? = some e → l[i]? = some v → me s00 e (.int v)
  | [], [], _ => ⟨rfl, fun i e v h => by simp at h⟩
  | e :: L, v :: l, h => by
    rw [mIb] at h
    split at h
    · rename_i q
      obtain ⟨a, b⟩ := mIb_ok h
      refine ⟨by rw [List.length_cons, List.length_cons, a], fun i e' v' he hv => ?_⟩
      match i, he, hv with
      | 0, he, hv =>
        cases he
        cases hv
        exact meb_ok q
      | i + 1, he, hv => exact b i e' v' he hv
    · cases h
  | [], _ :: _, h => by cases h
  | _ :: _, [], h => by cases h
def unb (lo hi : Int) : List Int32 → Nat → Bool
  | [], 0 => true
  | x :: t, n + 1 => match ile lo x.toInt, ile x.toInt hi with
    | true, true => unb lo hi t n
    | _, _ => false
  | _, _ => false
theorem unb_ok {lo hi : Int} : ∀ {l : List Int32} {n : Nat}, unb lo hi l n = true → l.length = n ∧ ∀ x ∈ l, lo ≤ x.toInt ∧ x.toInt ≤ hi
  | [], 0, _ => ⟨rfl, fun x h => absurd h List.not_mem_nil⟩
  | x :: t, n + 1, h => by
    rw [unb] at h
    split at h
    · rename_i q1 q2
      obtain ⟨a, b⟩ := unb_ok h
      refine ⟨by rw [List.length_cons, a], fun y hy => ?_⟩
      rcases List.mem_cons.mp hy with rfl | hy
      · exact ⟨ile_le q1, ile_le q2⟩
      · exact b y hy
    · cases h
  | [], _ + 1, h => by cases h
  | _ :: _, 0, h => by cases h
def lnb {α : Type} : List α → Nat → Bool
  | [], 0 => true
  | _ :: t, n + 1 => lnb t n
  | _, _ => false
theorem lnb_ok {α : Type} : ∀ {l : List α} {n : Nat}, lnb l n = true → l.length = n
  | [], 0, _ => rfl
  | _ :: t, n + 1, h => by rw [List.length_cons, lnb_ok (show lnb t n = true from h)]
  | [], _ + 1, h => by cases h
  | _ :: _, 0, h => by cases h
def rfb : List Nat → List (Option Nat) → Bool
  | [], [] => true
  | a :: s, some b :: t => match Nat.beq a b with
    | true => rfb s t
    | false => false
  | _, _ => false
theorem rfb_ok : ∀ {L : List Nat} {l : List (Option Nat)}, rfb L l = true → l = L.map some
  | [], [], _ => rfl
  | a :: s, some b :: t, h => by
    rw [rfb] at h
    split at h
    · rename_i q
      rw [Nat.eq_of_beq_eq_true q, rfb_ok h]
      rfl
    · cases h
  | [], _ :: _, h => by cases h
  | _ :: _, [], h => by cases h
  | _ :: _, none :: _, h => by cases h
def mcb (c : zC) (x : aE) : Bool := match c, x with
  | .inl L, .inl l => mIb L l
  | .inr (.inl (n, lo, hi)), .inl l => unb lo hi l n
  | .inr (.inr (.inl n)), .inr (.inl l) => lnb l n
  | .inr (.inr (.inr (.inl L))), .inr (.inr (.inl l)) => rfb L l
  | .inr (.inr (.inr (.inr (ci, F)))), .inr (.inr (.inr (cj, fs))) => match Nat.beq ci cj with
    | true => mLb F fs
    | false => false
  | _, _ => false
theorem mcb_ok {c : zC} {x : aE} (h : mcb c x = true) : mc s00 c x := by
  unfold mcb at h
  split at h
  · exact mIb_ok h
  · exact unb_ok h
  · exact lnb_ok h
  · exact rfb_ok h
  · split at h
    · rename_i q
      exact ⟨Nat.eq_of_beq_eq_true q, (mLb_ok h).1, (mLb_ok h).2⟩
    · cases h
  · cases h
def hck : Nat → aH → Bool
  | p, [] => Nat.ble 100 p
  | p, x :: t => match zg [(90, zWc)] p with
    | some c => match mcb c x with
      | true => frN (p + 1) (fun p => hck p t)
      | false => false
    | none => frN (p + 1) (fun p => hck p t)
theorem hck_ok : ∀ {h : aH} {p : Nat}, hck p h = true → ∀ q, p ≤ q → q < 100 → ∀ c, zg [(90, zWc)] q = some c → ∃ x, h[q - p]? = some x ∧ mc s00 c x
  | [], p, hk, q, h1, h2, c, hc => by
    have := Nat.le_of_ble_eq_true (show Nat.ble 100 p = true from hk)
    omega
  | x :: t, p, hk, q, h1, h2, c, hc => by
    rw [hck] at hk
    have rest : hck (p + 1) t = true → p ≠ q → ∃ x', (x :: t)[q - p]? = some x' ∧ mc s00 c x' := fun hk ne => by
      obtain ⟨x', a, b⟩ := hck_ok hk q (by omega) h2 c hc
      refine ⟨x', ?_, b⟩
      rw [show q - p = (q - (p + 1)) + 1 by omega]
      exact a
    split at hk
    · rename_i c' hc'
      split at hk
      · rename_i m
        rw [frN_eq] at hk
        by_cases e : p = q
        · subst e
          rw [hc] at hc'
          cases hc'
          exact ⟨x, by rw [Nat.sub_self]; rfl, mcb_ok m⟩
        · exact rest hk e
      · cases hk
    · rename_i hn
      rw [frN_eq] at hk
      by_cases e : p = q
      · subst e
        rw [hc] at hn
        cases hn
      · exact rest hk e
set_option maxRecDepth 100000 in
theorem hY_ck : hck 0 hY = true := by decide +kernel
def tib0 (b : Nat × Int × Int) : Bool := Nat.blt b.1 27 && (ile b.2.1 (s00 b.1) && ile (s00 b.1) b.2.2)
theorem TIB_1 : TIB.all tib0 = true := by decide +kernel
def zwf0 (f : zF) : Bool := Nat.beq f.1 4 && (Nat.blt f.2.1 27 && (Nat.blt f.2.2.1 27 && (Nat.blt f.2.2.2.1 27 && ile (s00 f.2.2.2.1) (24 * s00 f.2.1 - 4 * s00 f.2.2.1))))
theorem zWF_1 : zWF.all zwf0 = true := by decide +kernel
theorem zg_lt {p : Nat} {c : zC} (h : zg [(90, zWc)] p = some c) : p < 100 := by
  by_cases e : p = 90
  · omega
  · refine zD_lt (p := p) (c := c) ?_
    unfold zg zlc at h
    cases hb : Nat.beq 90 p with
    | true => exact absurd (Nat.eq_of_beq_eq_true hb).symm e
    | false =>
      dsimp only at h
      rw [hb] at h
      exact h
theorem Iv_of {h : aH} (hk : hck 0 h = true) : Iv 0 h := by
  refine ⟨s00, fun τ hτ => ?_⟩
  have hτ : ∀ i, i < 27 → τ i = s00 i := hτ
  have t1 : τ 1 = 0 := hτ 1 (by decide)
  have t0 : τ 0 = 0 := hτ 0 (by decide)
  refine ⟨⟨fun i v hv => (by cases hv), rfl⟩, fun p c hc => ?_, fun b hb => ?_, fun f hf => ?_, ⟨t1, t0, by show 2 ≤ 27; decide⟩, fun p _ => rfl⟩
  · obtain ⟨x, hx, mx⟩ := hck_ok hk p (Nat.zero_le _) (zg_lt hc) c hc
    refine ⟨x, hx, ?_⟩
    by_cases e : p = 90
    · subst e
      have hc : some zWc = some c := hc
      cases hc
      exact gC_ok (g1_ok (fun i _ h => hτ i h)) zWc_0 mx
    · have hD : zD p = some c := by
        have hc : zg [(90, zWc)] p = some c := hc
        unfold zg zlc at hc
        cases hb : Nat.beq 90 p with
        | true => exact absurd (Nat.eq_of_beq_eq_true hb).symm e
        | false =>
          dsimp only at hc
          rw [hb] at hc
          exact hc
      exact okC_ok (zD_ok hD) (hτ 0 (by decide)) mx
  · have q := List.all_eq_true.mp TIB_1 b hb
    unfold tib0 at q
    have q := Bool.and_eq_true_iff.mp q
    have q2 := Bool.and_eq_true_iff.mp q.2
    rw [hτ b.1 (Nat.le_of_ble_eq_true q.1)]
    exact ⟨ile_le q2.1, ile_le q2.2⟩
  · have q := List.all_eq_true.mp zWF_1 f hf
    unfold zwf0 at q
    have q := Bool.and_eq_true_iff.mp q
    have q2 := Bool.and_eq_true_iff.mp q.2
    have q3 := Bool.and_eq_true_iff.mp q2.2
    have q4 := Bool.and_eq_true_iff.mp q3.2
    obtain ⟨ft, fi, fj, fk, fd⟩ := f
    have q1 : ft = 4 := Nat.eq_of_beq_eq_true q.1
    subst q1
    show τ fk ≤ 24 * τ fi - 4 * τ fj
    rw [hτ fi (Nat.le_of_ble_eq_true q2.1), hτ fj (Nat.le_of_ble_eq_true q3.1), hτ fk (Nat.le_of_ble_eq_true q4.1)]
    exact ile_le q4.2
theorem Iv_hY : Iv 0 hY := Iv_of hY_ck
