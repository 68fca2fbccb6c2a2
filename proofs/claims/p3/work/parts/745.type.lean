/-! type and clear: the text's length -/
theorem sm_63 {z : Int} {h : aH} (H : Iv z h) (a : Int32) : ∃ (v : Int32) (h1 h2 : aH), Rl LL 40 63 (aq 0 a 0 0 1) h (some (.int v)) h1 ∧ (∃ fs, h1[89]? = some (.inr (.inr (.inr (5, fs))))) ∧ Rl LL 40 105 (aq 89 a 0 0 1) h1 (some (.int v)) h2 ∧ ∃ z', Iv z' h2 := by
  have hz := H.z
  have ha := i32b a
  by_cases a1 : a.toInt ≤ -1
  · obtain ⟨v1, h1, R1, I1, e1⟩ := call2 zO133 (q := 0) (k := 1) (x1 := -2147483648) (x2 := -1) (z1 := 0) (z2 := 160) (by decide +kernel) (by decide +kernel) (i := 1) (w := -2) rfl H a 0 0 ha.1 a1 hz.1 hz.2
    obtain ⟨v2, h2, R2, I2, e2⟩ := call2 zO138 (q := 89) (k := 1) (x1 := -2147483648) (x2 := -1) (z1 := 0) (z2 := 160) (by decide +kernel) (by decide +kernel) (i := 1) (w := -2) rfl I1 a 0 0 ha.1 a1 hz.1 hz.2
    have e : v2 = v1 := (e2 rfl).trans (e1 rfl).symm
    subst e
    exact ⟨v2, h1, h2, R1, I1.o89, R2, z, I2⟩
  · by_cases a2 : 128 ≤ a.toInt
    · obtain ⟨v1, h1, R1, I1, e1⟩ := call2 zO134 (q := 0) (k := 1) (x1 := 128) (x2 := 2147483647) (z1 := 0) (z2 := 160) (by decide +kernel) (by decide +kernel) (i := 1) (w := -2) rfl H a 0 0 a2 ha.2 hz.1 hz.2
      obtain ⟨v2, h2, R2, I2, e2⟩ := call2 zO139 (q := 89) (k := 1) (x1 := 128) (x2 := 2147483647) (z1 := 0) (z2 := 160) (by decide +kernel) (by decide +kernel) (i := 1) (w := -2) rfl I1 a 0 0 a2 ha.2 hz.1 hz.2
      have e : v2 = v1 := (e2 rfl).trans (e1 rfl).symm
      subst e
      exact ⟨v2, h1, h2, R1, I1.o89, R2, z, I2⟩
    · by_cases z1 : 160 ≤ z
      · obtain ⟨v1, h1, R1, I1, e1⟩ := call2 zO135 (q := 0) (k := 1) (x1 := 0) (x2 := 127) (z1 := 160) (z2 := 160) (by decide +kernel) (by decide +kernel) (i := 1) (w := -4) rfl H a 0 0 (by omega) (by omega) z1 hz.2
        obtain ⟨v2, h2, R2, I2, e2⟩ := call2 zO140 (q := 89) (k := 1) (x1 := 0) (x2 := 127) (z1 := 160) (z2 := 160) (by decide +kernel) (by decide +kernel) (i := 1) (w := -4) rfl I1 a 0 0 (by omega) (by omega) z1 hz.2
        have e : v2 = v1 := (e2 rfl).trans (e1 rfl).symm
        subst e
        exact ⟨v2, h1, h2, R1, I1.o89, R2, z, I2⟩
      · obtain ⟨v, h1, h2, R1, o, R2, I2⟩ := twoJ zO136 zO141 (k := 1) (x1 := 0) (x2 := 127) (z1 := 0) (z2 := 159) (by decide +kernel) (by decide +kernel) (i := 0) (d := 1) (z' := z + 1) (Or.inl rfl) (by decide) (by decide) (by decide) rfl rfl rfl (w := 1) rfl rfl H a 0 0 (by omega) (by omega) hz.1 (by omega) (by rw [if_pos rfl]) (by omega) (by omega)
        exact ⟨v, h1, h2, R1, o, R2, z + 1, I2⟩
theorem sm_64 {z : Int} {h : aH} (H : Iv z h) (a : Int32) : ∃ (v : Int32) (h1 h2 : aH), Rl LL 40 64 (aq 0 a 0 0 0) h (some (.int v)) h1 ∧ (∃ fs, h1[89]? = some (.inr (.inr (.inr (5, fs))))) ∧ Rl LL 40 106 (aq 89 a 0 0 0) h1 (some (.int v)) h2 ∧ ∃ z', Iv z' h2 := by
  have hz := H.z
  have ha := i32b a
  obtain ⟨v, h1, h2, R1, o, R2, I2⟩ := twoJ zO137 zO142 (k := 0) (x1 := -2147483648) (x2 := 2147483647) (z1 := 0) (z2 := 160) (by decide +kernel) (by decide +kernel) (i := 1) (d := 0) (z' := 0) (Or.inr rfl) (by decide) (by decide) (by decide) rfl rfl rfl (w := 0) rfl rfl H a 0 0 ha.1 ha.2 hz.1 hz.2 (by rw [if_neg (by decide)]; rfl) (by omega) (by omega)
  exact ⟨v, h1, h2, R1, o, R2, 0, I2⟩
