/-! every call, between calls -/
theorem sm_65 {z : Int} {h : aH} (H : Iv z h) (a b c : Int32) : ∃ (v : Int32) (h' : aH), Rl LL 40 65 (aq 0 a b c 0) h (some (.int v)) h' ∧ Iv z h' := by
  obtain ⟨v, h', R, I, -⟩ := call2 zO31 (q := 0) (k := 0) (x1 := -2147483648) (x2 := 2147483647) (z1 := 0) (z2 := 160) (by decide +kernel) (by decide +kernel) rfl H a b c (i32b a).1 (i32b a).2 H.z.1 H.z.2
  exact ⟨v, h', R, I⟩
theorem sm_119 {z : Int} {h : aH} (H : Iv z h) (a b c : Int32) : ∃ (v : Int32) (h' : aH), Rl LL 40 119 (aq 89 a b c 0) h (some (.int v)) h' ∧ Iv z h' := by
  obtain ⟨v, h', R, I, -⟩ := call2 zO131 (q := 89) (k := 0) (x1 := -2147483648) (x2 := 2147483647) (z1 := 0) (z2 := 160) (by decide +kernel) (by decide +kernel) rfl H a b c (i32b a).1 (i32b a).2 H.z.1 H.z.2
  exact ⟨v, h', R, I⟩
theorem sm_66 {z : Int} {h : aH} (H : Iv z h) (a b c : Int32) : ∃ (v : Int32) (h' : aH), Rl LL 40 66 (aq 0 a b c 1) h (some (.int v)) h' ∧ Iv z h' := by
  obtain ⟨v, h', R, I, -⟩ := call2 zO32 (q := 0) (k := 1) (x1 := -2147483648) (x2 := 2147483647) (z1 := 0) (z2 := 160) (by decide +kernel) (by decide +kernel) rfl H a b c (i32b a).1 (i32b a).2 H.z.1 H.z.2
  exact ⟨v, h', R, I⟩
theorem sm_121 {z : Int} {h : aH} (H : Iv z h) (a b c : Int32) : ∃ (v : Int32) (h' : aH), Rl LL 40 121 (aq 89 a b c 1) h (some (.int v)) h' ∧ Iv z h' := by
  obtain ⟨v, h', R, I, -⟩ := call2 zO101 (q := 89) (k := 1) (x1 := -2147483648) (x2 := 2147483647) (z1 := 0) (z2 := 160) (by decide +kernel) (by decide +kernel) rfl H a b c (i32b a).1 (i32b a).2 H.z.1 H.z.2
  exact ⟨v, h', R, I⟩
theorem sm_67 {z : Int} {h : aH} (H : Iv z h) (a b c : Int32) : ∃ (v : Int32) (h' : aH), Rl LL 40 67 (aq 0 a b c 2) h (some (.int v)) h' ∧ Iv z h' := by
  obtain ⟨v, h', R, I, -⟩ := call2 zO33 (q := 0) (k := 2) (x1 := -2147483648) (x2 := 2147483647) (z1 := 0) (z2 := 160) (by decide +kernel) (by decide +kernel) rfl H a b c (i32b a).1 (i32b a).2 H.z.1 H.z.2
  exact ⟨v, h', R, I⟩
theorem sm_132 {z : Int} {h : aH} (H : Iv z h) (a b c : Int32) : ∃ (v : Int32) (h' : aH), Rl LL 40 132 (aq 89 a b c 2) h (some (.int v)) h' ∧ Iv z h' := by
  obtain ⟨v, h', R, I, -⟩ := call2 zO102 (q := 89) (k := 2) (x1 := -2147483648) (x2 := 2147483647) (z1 := 0) (z2 := 160) (by decide +kernel) (by decide +kernel) rfl H a b c (i32b a).1 (i32b a).2 H.z.1 H.z.2
  exact ⟨v, h', R, I⟩
theorem sm_68 {z : Int} {h : aH} (H : Iv z h) (a b c : Int32) : ∃ (v : Int32) (h' : aH), Rl LL 40 68 (aq 0 a b c 2) h (some (.int v)) h' ∧ Iv z h' := by
  obtain ⟨v, h', R, I, -⟩ := call2 zO34 (q := 0) (k := 2) (x1 := -2147483648) (x2 := 2147483647) (z1 := 0) (z2 := 160) (by decide +kernel) (by decide +kernel) rfl H a b c (i32b a).1 (i32b a).2 H.z.1 H.z.2
  exact ⟨v, h', R, I⟩
theorem sm_134 {z : Int} {h : aH} (H : Iv z h) (a b c : Int32) : ∃ (v : Int32) (h' : aH), Rl LL 40 134 (aq 89 a b c 2) h (some (.int v)) h' ∧ Iv z h' := by
  obtain ⟨v, h', R, I, -⟩ := call2 zO107 (q := 89) (k := 2) (x1 := -2147483648) (x2 := 2147483647) (z1 := 0) (z2 := 160) (by decide +kernel) (by decide +kernel) rfl H a b c (i32b a).1 (i32b a).2 H.z.1 H.z.2
  exact ⟨v, h', R, I⟩
theorem sm_69 {z : Int} {h : aH} (H : Iv z h) (a b c : Int32) : ∃ (v : Int32) (h' : aH), Rl LL 40 69 (aq 0 a b c 2) h (some (.int v)) h' ∧ Iv z h' := by
  obtain ⟨v, h', R, I, -⟩ := call2 zO35 (q := 0) (k := 2) (x1 := -2147483648) (x2 := 2147483647) (z1 := 0) (z2 := 160) (by decide +kernel) (by decide +kernel) rfl H a b c (i32b a).1 (i32b a).2 H.z.1 H.z.2
  exact ⟨v, h', R, I⟩
theorem sm_135 {z : Int} {h : aH} (H : Iv z h) (a b c : Int32) : ∃ (v : Int32) (h' : aH), Rl LL 40 135 (aq 89 a b c 2) h (some (.int v)) h' ∧ Iv z h' := by
  obtain ⟨v, h', R, I, -⟩ := call2 zO103 (q := 89) (k := 2) (x1 := -2147483648) (x2 := 2147483647) (z1 := 0) (z2 := 160) (by decide +kernel) (by decide +kernel) rfl H a b c (i32b a).1 (i32b a).2 H.z.1 H.z.2
  exact ⟨v, h', R, I⟩
theorem sm_70 {z : Int} {h : aH} (H : Iv z h) (a b c : Int32) : ∃ (v : Int32) (h' : aH), Rl LL 40 70 (aq 0 a b c 1) h (some (.int v)) h' ∧ Iv z h' := by
  obtain ⟨v, h', R, I, -⟩ := call2 zO36 (q := 0) (k := 1) (x1 := -2147483648) (x2 := 2147483647) (z1 := 0) (z2 := 160) (by decide +kernel) (by decide +kernel) rfl H a b c (i32b a).1 (i32b a).2 H.z.1 H.z.2
  exact ⟨v, h', R, I⟩
theorem sm_127 {z : Int} {h : aH} (H : Iv z h) (a b c : Int32) : ∃ (v : Int32) (h' : aH), Rl LL 40 127 (aq 89 a b c 1) h (some (.int v)) h' ∧ Iv z h' := by
  obtain ⟨v, h', R, I, -⟩ := call2 zO104 (q := 89) (k := 1) (x1 := -2147483648) (x2 := 2147483647) (z1 := 0) (z2 := 160) (by decide +kernel) (by decide +kernel) rfl H a b c (i32b a).1 (i32b a).2 H.z.1 H.z.2
  exact ⟨v, h', R, I⟩
theorem sm_71 {z : Int} {h : aH} (H : Iv z h) (a b c : Int32) : ∃ (v : Int32) (h' : aH), Rl LL 40 71 (aq 0 a b c 3) h (some (.int v)) h' ∧ Iv z h' := by
  obtain ⟨v, h', R, I, -⟩ := call2 zO37 (q := 0) (k := 3) (x1 := -2147483648) (x2 := 2147483647) (z1 := 0) (z2 := 160) (by decide +kernel) (by decide +kernel) rfl H a b c (i32b a).1 (i32b a).2 H.z.1 H.z.2
  exact ⟨v, h', R, I⟩
theorem sm_136 {z : Int} {h : aH} (H : Iv z h) (a b c : Int32) : ∃ (v : Int32) (h' : aH), Rl LL 40 136 (aq 89 a b c 3) h (some (.int v)) h' ∧ Iv z h' := by
  obtain ⟨v, h', R, I, -⟩ := call2 zO116 (q := 89) (k := 3) (x1 := -2147483648) (x2 := 2147483647) (z1 := 0) (z2 := 160) (by decide +kernel) (by decide +kernel) rfl H a b c (i32b a).1 (i32b a).2 H.z.1 H.z.2
  exact ⟨v, h', R, I⟩
theorem sm_72 {z : Int} {h : aH} (H : Iv z h) (a b c : Int32) : ∃ (v : Int32) (h' : aH), Rl LL 40 72 (aq 0 a b c 2) h (some (.int v)) h' ∧ Iv z h' := by
  obtain ⟨v, h', R, I, -⟩ := call2 zO38 (q := 0) (k := 2) (x1 := -2147483648) (x2 := 2147483647) (z1 := 0) (z2 := 160) (by decide +kernel) (by decide +kernel) rfl H a b c (i32b a).1 (i32b a).2 H.z.1 H.z.2
  exact ⟨v, h', R, I⟩
theorem sm_137 {z : Int} {h : aH} (H : Iv z h) (a b c : Int32) : ∃ (v : Int32) (h' : aH), Rl LL 40 137 (aq 89 a b c 2) h (some (.int v)) h' ∧ Iv z h' := by
  obtain ⟨v, h', R, I, -⟩ := call2 zO117 (q := 89) (k := 2) (x1 := -2147483648) (x2 := 2147483647) (z1 := 0) (z2 := 160) (by decide +kernel) (by decide +kernel) rfl H a b c (i32b a).1 (i32b a).2 H.z.1 H.z.2
  exact ⟨v, h', R, I⟩
theorem sm_73 {z : Int} {h : aH} (H : Iv z h) (a b c : Int32) : ∃ (v : Int32) (h' : aH), Rl LL 40 73 (aq 0 a b c 1) h (some (.int v)) h' ∧ Iv z h' := by
  obtain ⟨v, h', R, I, -⟩ := call2 zO39 (q := 0) (k := 1) (x1 := -2147483648) (x2 := 2147483647) (z1 := 0) (z2 := 160) (by decide +kernel) (by decide +kernel) rfl H a b c (i32b a).1 (i32b a).2 H.z.1 H.z.2
  exact ⟨v, h', R, I⟩
theorem sm_138 {z : Int} {h : aH} (H : Iv z h) (a b c : Int32) : ∃ (v : Int32) (h' : aH), Rl LL 40 138 (aq 89 a b c 1) h (some (.int v)) h' ∧ Iv z h' := by
  obtain ⟨v, h', R, I, -⟩ := call2 zO118 (q := 89) (k := 1) (x1 := -2147483648) (x2 := 2147483647) (z1 := 0) (z2 := 160) (by decide +kernel) (by decide +kernel) rfl H a b c (i32b a).1 (i32b a).2 H.z.1 H.z.2
  exact ⟨v, h', R, I⟩
theorem sm_74 {z : Int} {h : aH} (H : Iv z h) (a b c : Int32) : ∃ (v : Int32) (h' : aH), Rl LL 40 74 (aq 0 a b c 2) h (some (.int v)) h' ∧ Iv z h' := by
  obtain ⟨v, h', R, I, -⟩ := call2 zO40 (q := 0) (k := 2) (x1 := -2147483648) (x2 := 2147483647) (z1 := 0) (z2 := 160) (by decide +kernel) (by decide +kernel) rfl H a b c (i32b a).1 (i32b a).2 H.z.1 H.z.2
  exact ⟨v, h', R, I⟩
theorem sm_140 {z : Int} {h : aH} (H : Iv z h) (a b c : Int32) : ∃ (v : Int32) (h' : aH), Rl LL 40 140 (aq 89 a b c 2) h (some (.int v)) h' ∧ Iv z h' := by
  obtain ⟨v, h', R, I, -⟩ := call2 zO119 (q := 89) (k := 2) (x1 := -2147483648) (x2 := 2147483647) (z1 := 0) (z2 := 160) (by decide +kernel) (by decide +kernel) rfl H a b c (i32b a).1 (i32b a).2 H.z.1 H.z.2
  exact ⟨v, h', R, I⟩
theorem sm_75 {z : Int} {h : aH} (H : Iv z h) (a b c : Int32) : ∃ (v : Int32) (h' : aH), Rl LL 40 75 (aq 0 a b c 2) h (some (.int v)) h' ∧ Iv z h' := by
  obtain ⟨v, h', R, I, -⟩ := call2 zO41 (q := 0) (k := 2) (x1 := -2147483648) (x2 := 2147483647) (z1 := 0) (z2 := 160) (by decide +kernel) (by decide +kernel) rfl H a b c (i32b a).1 (i32b a).2 H.z.1 H.z.2
  exact ⟨v, h', R, I⟩
theorem sm_141 {z : Int} {h : aH} (H : Iv z h) (a b c : Int32) : ∃ (v : Int32) (h' : aH), Rl LL 40 141 (aq 89 a b c 2) h (some (.int v)) h' ∧ Iv z h' := by
  obtain ⟨v, h', R, I, -⟩ := call2 zO120 (q := 89) (k := 2) (x1 := -2147483648) (x2 := 2147483647) (z1 := 0) (z2 := 160) (by decide +kernel) (by decide +kernel) rfl H a b c (i32b a).1 (i32b a).2 H.z.1 H.z.2
  exact ⟨v, h', R, I⟩
theorem sm_76 {z : Int} {h : aH} (H : Iv z h) (a b c : Int32) : ∃ (v : Int32) (h' : aH), Rl LL 40 76 (aq 0 a b c 1) h (some (.int v)) h' ∧ Iv z h' := by
  obtain ⟨v, h', R, I, -⟩ := call2 zO42 (q := 0) (k := 1) (x1 := -2147483648) (x2 := 2147483647) (z1 := 0) (z2 := 160) (by decide +kernel) (by decide +kernel) rfl H a b c (i32b a).1 (i32b a).2 H.z.1 H.z.2
  exact ⟨v, h', R, I⟩
theorem sm_144 {z : Int} {h : aH} (H : Iv z h) (a b c : Int32) : ∃ (v : Int32) (h' : aH), Rl LL 40 144 (aq 89 a b c 1) h (some (.int v)) h' ∧ Iv z h' := by
  obtain ⟨v, h', R, I, -⟩ := call2 zO121 (q := 89) (k := 1) (x1 := -2147483648) (x2 := 2147483647) (z1 := 0) (z2 := 160) (by decide +kernel) (by decide +kernel) rfl H a b c (i32b a).1 (i32b a).2 H.z.1 H.z.2
  exact ⟨v, h', R, I⟩
theorem sm_77 {z : Int} {h : aH} (H : Iv z h) (a b c : Int32) : ∃ (v : Int32) (h' : aH), Rl LL 40 77 (aq 0 a b c 1) h (some (.int v)) h' ∧ Iv z h' := by
  obtain ⟨v, h', R, I, -⟩ := call2 zO43 (q := 0) (k := 1) (x1 := -2147483648) (x2 := 2147483647) (z1 := 0) (z2 := 160) (by decide +kernel) (by decide +kernel) rfl H a b c (i32b a).1 (i32b a).2 H.z.1 H.z.2
  exact ⟨v, h', R, I⟩
theorem sm_146 {z : Int} {h : aH} (H : Iv z h) (a b c : Int32) : ∃ (v : Int32) (h' : aH), Rl LL 40 146 (aq 89 a b c 1) h (some (.int v)) h' ∧ Iv z h' := by
  obtain ⟨v, h', R, I, -⟩ := call2 zO122 (q := 89) (k := 1) (x1 := -2147483648) (x2 := 2147483647) (z1 := 0) (z2 := 160) (by decide +kernel) (by decide +kernel) rfl H a b c (i32b a).1 (i32b a).2 H.z.1 H.z.2
  exact ⟨v, h', R, I⟩
theorem sm_78 {z : Int} {h : aH} (H : Iv z h) (a b c : Int32) : ∃ (v : Int32) (h' : aH), Rl LL 40 78 (aq 0 a b c 1) h (some (.int v)) h' ∧ Iv z h' := by
  obtain ⟨v, h', R, I, -⟩ := call2 zO44 (q := 0) (k := 1) (x1 := -2147483648) (x2 := 2147483647) (z1 := 0) (z2 := 160) (by decide +kernel) (by decide +kernel) rfl H a b c (i32b a).1 (i32b a).2 H.z.1 H.z.2
  exact ⟨v, h', R, I⟩
theorem sm_155 {z : Int} {h : aH} (H : Iv z h) (a b c : Int32) : ∃ (v : Int32) (h' : aH), Rl LL 40 155 (aq 89 a b c 1) h (some (.int v)) h' ∧ Iv z h' := by
  obtain ⟨v, h', R, I, -⟩ := call2 zO108 (q := 89) (k := 1) (x1 := -2147483648) (x2 := 2147483647) (z1 := 0) (z2 := 160) (by decide +kernel) (by decide +kernel) rfl H a b c (i32b a).1 (i32b a).2 H.z.1 H.z.2
  exact ⟨v, h', R, I⟩
theorem sm_79 {z : Int} {h : aH} (H : Iv z h) (a b c : Int32) : ∃ (v : Int32) (h' : aH), Rl LL 40 79 (aq 0 a b c 0) h (some (.int v)) h' ∧ Iv z h' := by
  obtain ⟨v, h', R, I, -⟩ := call2 zO45 (q := 0) (k := 0) (x1 := -2147483648) (x2 := 2147483647) (z1 := 0) (z2 := 160) (by decide +kernel) (by decide +kernel) rfl H a b c (i32b a).1 (i32b a).2 H.z.1 H.z.2
  exact ⟨v, h', R, I⟩
theorem sm_156 {z : Int} {h : aH} (H : Iv z h) (a b c : Int32) : ∃ (v : Int32) (h' : aH), Rl LL 40 156 (aq 89 a b c 0) h (some (.int v)) h' ∧ Iv z h' := by
  obtain ⟨v, h', R, I, -⟩ := call2 zO109 (q := 89) (k := 0) (x1 := -2147483648) (x2 := 2147483647) (z1 := 0) (z2 := 160) (by decide +kernel) (by decide +kernel) rfl H a b c (i32b a).1 (i32b a).2 H.z.1 H.z.2
  exact ⟨v, h', R, I⟩
theorem sm_80 {z : Int} {h : aH} (H : Iv z h) (a b c : Int32) : ∃ (v : Int32) (h' : aH), Rl LL 40 80 (aq 0 a b c 1) h (some (.int v)) h' ∧ Iv z h' := by
  obtain ⟨v, h', R, I, -⟩ := call2 zO46 (q := 0) (k := 1) (x1 := -2147483648) (x2 := 2147483647) (z1 := 0) (z2 := 160) (by decide +kernel) (by decide +kernel) rfl H a b c (i32b a).1 (i32b a).2 H.z.1 H.z.2
  exact ⟨v, h', R, I⟩
theorem sm_158 {z : Int} {h : aH} (H : Iv z h) (a b c : Int32) : ∃ (v : Int32) (h' : aH), Rl LL 40 158 (aq 89 a b c 1) h (some (.int v)) h' ∧ Iv z h' := by
  obtain ⟨v, h', R, I, -⟩ := call2 zO123 (q := 89) (k := 1) (x1 := -2147483648) (x2 := 2147483647) (z1 := 0) (z2 := 160) (by decide +kernel) (by decide +kernel) rfl H a b c (i32b a).1 (i32b a).2 H.z.1 H.z.2
  exact ⟨v, h', R, I⟩
theorem sm_81 {z : Int} {h : aH} (H : Iv z h) (a b c : Int32) : ∃ (v : Int32) (h' : aH), Rl LL 40 81 (aq 0 a b c 2) h (some (.int v)) h' ∧ Iv z h' := by
  obtain ⟨v, h', R, I, -⟩ := call2 zO47 (q := 0) (k := 2) (x1 := -2147483648) (x2 := 2147483647) (z1 := 0) (z2 := 160) (by decide +kernel) (by decide +kernel) rfl H a b c (i32b a).1 (i32b a).2 H.z.1 H.z.2
  exact ⟨v, h', R, I⟩
theorem sm_159 {z : Int} {h : aH} (H : Iv z h) (a b c : Int32) : ∃ (v : Int32) (h' : aH), Rl LL 40 159 (aq 89 a b c 2) h (some (.int v)) h' ∧ Iv z h' := by
  obtain ⟨v, h', R, I, -⟩ := call2 zO124 (q := 89) (k := 2) (x1 := -2147483648) (x2 := 2147483647) (z1 := 0) (z2 := 160) (by decide +kernel) (by decide +kernel) rfl H a b c (i32b a).1 (i32b a).2 H.z.1 H.z.2
  exact ⟨v, h', R, I⟩
theorem sm_82 {z : Int} {h : aH} (H : Iv z h) (a b c : Int32) : ∃ (v : Int32) (h' : aH), Rl LL 40 82 (aq 0 a b c 1) h (some (.int v)) h' ∧ Iv z h' := by
  obtain ⟨v, h', R, I, -⟩ := call2 zO48 (q := 0) (k := 1) (x1 := -2147483648) (x2 := 2147483647) (z1 := 0) (z2 := 160) (by decide +kernel) (by decide +kernel) rfl H a b c (i32b a).1 (i32b a).2 H.z.1 H.z.2
  exact ⟨v, h', R, I⟩
theorem sm_160 {z : Int} {h : aH} (H : Iv z h) (a b c : Int32) : ∃ (v : Int32) (h' : aH), Rl LL 40 160 (aq 89 a b c 1) h (some (.int v)) h' ∧ Iv z h' := by
  obtain ⟨v, h', R, I, -⟩ := call2 zO130 (q := 89) (k := 1) (x1 := -2147483648) (x2 := 2147483647) (z1 := 0) (z2 := 160) (by decide +kernel) (by decide +kernel) rfl H a b c (i32b a).1 (i32b a).2 H.z.1 H.z.2
  exact ⟨v, h', R, I⟩
theorem sm_83 {z : Int} {h : aH} (H : Iv z h) (a b c : Int32) : ∃ (v : Int32) (h' : aH), Rl LL 40 83 (aq 0 a b c 1) h (some (.int v)) h' ∧ Iv z h' := by
  obtain ⟨v, h', R, I, -⟩ := call2 zO49 (q := 0) (k := 1) (x1 := -2147483648) (x2 := 2147483647) (z1 := 0) (z2 := 160) (by decide +kernel) (by decide +kernel) rfl H a b c (i32b a).1 (i32b a).2 H.z.1 H.z.2
  exact ⟨v, h', R, I⟩
theorem sm_161 {z : Int} {h : aH} (H : Iv z h) (a b c : Int32) : ∃ (v : Int32) (h' : aH), Rl LL 40 161 (aq 89 a b c 1) h (some (.int v)) h' ∧ Iv z h' := by
  obtain ⟨v, h', R, I, -⟩ := call2 zO129 (q := 89) (k := 1) (x1 := -2147483648) (x2 := 2147483647) (z1 := 0) (z2 := 160) (by decide +kernel) (by decide +kernel) rfl H a b c (i32b a).1 (i32b a).2 H.z.1 H.z.2
  exact ⟨v, h', R, I⟩
theorem sm_84 {z : Int} {h : aH} (H : Iv z h) (a b c : Int32) : ∃ (v : Int32) (h' : aH), Rl LL 40 84 (aq 0 a b c 2) h (some (.int v)) h' ∧ Iv z h' := by
  obtain ⟨v, h', R, I, -⟩ := call2 zO50 (q := 0) (k := 2) (x1 := -2147483648) (x2 := 2147483647) (z1 := 0) (z2 := 160) (by decide +kernel) (by decide +kernel) rfl H a b c (i32b a).1 (i32b a).2 H.z.1 H.z.2
  exact ⟨v, h', R, I⟩
theorem sm_163 {z : Int} {h : aH} (H : Iv z h) (a b c : Int32) : ∃ (v : Int32) (h' : aH), Rl LL 40 163 (aq 89 a b c 2) h (some (.int v)) h' ∧ Iv z h' := by
  obtain ⟨v, h', R, I, -⟩ := call2 zO110 (q := 89) (k := 2) (x1 := -2147483648) (x2 := 2147483647) (z1 := 0) (z2 := 160) (by decide +kernel) (by decide +kernel) rfl H a b c (i32b a).1 (i32b a).2 H.z.1 H.z.2
  exact ⟨v, h', R, I⟩
theorem sm_85 {z : Int} {h : aH} (H : Iv z h) (a b c : Int32) : ∃ (v : Int32) (h' : aH), Rl LL 40 85 (aq 0 a b c 0) h (some (.int v)) h' ∧ Iv z h' := by
  obtain ⟨v, h', R, I, -⟩ := call2 zO51 (q := 0) (k := 0) (x1 := -2147483648) (x2 := 2147483647) (z1 := 0) (z2 := 160) (by decide +kernel) (by decide +kernel) rfl H a b c (i32b a).1 (i32b a).2 H.z.1 H.z.2
  exact ⟨v, h', R, I⟩
theorem sm_164 {z : Int} {h : aH} (H : Iv z h) (a b c : Int32) : ∃ (v : Int32) (h' : aH), Rl LL 40 164 (aq 89 a b c 0) h (some (.int v)) h' ∧ Iv z h' := by
  obtain ⟨v, h', R, I, -⟩ := call2 zO125 (q := 89) (k := 0) (x1 := -2147483648) (x2 := 2147483647) (z1 := 0) (z2 := 160) (by decide +kernel) (by decide +kernel) rfl H a b c (i32b a).1 (i32b a).2 H.z.1 H.z.2
  exact ⟨v, h', R, I⟩
theorem sm_86 {z : Int} {h : aH} (H : Iv z h) (a b c : Int32) : ∃ (v : Int32) (h' : aH), Rl LL 40 86 (aq 0 a b c 1) h (some (.int v)) h' ∧ Iv z h' := by
  obtain ⟨v, h', R, I, -⟩ := call2 zO52 (q := 0) (k := 1) (x1 := -2147483648) (x2 := 2147483647) (z1 := 0) (z2 := 160) (by decide +kernel) (by decide +kernel) rfl H a b c (i32b a).1 (i32b a).2 H.z.1 H.z.2
  exact ⟨v, h', R, I⟩
theorem sm_166 {z : Int} {h : aH} (H : Iv z h) (a b c : Int32) : ∃ (v : Int32) (h' : aH), Rl LL 40 166 (aq 89 a b c 1) h (some (.int v)) h' ∧ Iv z h' := by
  obtain ⟨v, h', R, I, -⟩ := call2 zO126 (q := 89) (k := 1) (x1 := -2147483648) (x2 := 2147483647) (z1 := 0) (z2 := 160) (by decide +kernel) (by decide +kernel) rfl H a b c (i32b a).1 (i32b a).2 H.z.1 H.z.2
  exact ⟨v, h', R, I⟩
theorem sm_87 {z : Int} {h : aH} (H : Iv z h) (a b c : Int32) : ∃ (v : Int64) (h' : aH), Rl LL 40 87 (aq 0 a b c 0) h (some (.long v)) h' ∧ Iv z h' := by
  obtain ⟨v, h', R, I⟩ := call2L zO54 (q := 0) (k := 0) (x1 := -2147483648) (x2 := 2147483647) (z1 := 0) (z2 := 160) (by decide +kernel) (by decide +kernel) rfl H a b c (i32b a).1 (i32b a).2 H.z.1 H.z.2
  exact ⟨v, h', R, I⟩
theorem sm_167 {z : Int} {h : aH} (H : Iv z h) (a b c : Int32) : ∃ (v : Int64) (h' : aH), Rl LL 40 167 (aq 89 a b c 0) h (some (.long v)) h' ∧ Iv z h' := by
  obtain ⟨v, h', R, I⟩ := call2L zO132 (q := 89) (k := 0) (x1 := -2147483648) (x2 := 2147483647) (z1 := 0) (z2 := 160) (by decide +kernel) (by decide +kernel) rfl H a b c (i32b a).1 (i32b a).2 H.z.1 H.z.2
  exact ⟨v, h', R, I⟩
