/-! the checker on the methods, printed -/
/-- typeLo -/
def zMx133 : List Nat := [0]
def zTx133 : zS := ([(0, (2, 0, .ofNat 0)), (1, (0, 2, .ofNat 0))], [], [], [(0, .ofNat 0, .ofNat 160), (2, .negSucc 2147483647, .negSucc 0)], [], 3)
def zXx133 : zS := ([], [(0, 1, .negSucc 1)], [], [], [], 2)
def zSx133 : zSm := (63, 2, zTx133, zXx133, zMx133)
def zn133_0 : zNd := (63, 0, zTx133, [], .ofNat 0, [])
def zNx133 : List zNd := [zn133_0]
def zEx133 : List zSm := []
theorem ze133 : ∀ q ∈ zEx133, SmOk LL q := fun _ h => absurd h List.not_mem_nil
def zYx133 : List (Nat × Nat) := []
def zQx133 : List zSp := []
theorem zK133 : zcks LL TTl zMx133 zEx133 zYx133 zNx133 zXx133 zQx133 1 100000 zNx133 = true := by decide +kernel
theorem zO133 : SmOk LL zSx133 := sm_ok (D := 1) (fu := 100000) (SP := zQx133) (NP := zYx133) (ND := zNx133) LL_1 TTl_ok ze133 (zcks_ok zK133) (c := .ofNat 0) rfl List.mem_cons_self
/-- typeHi -/
def zMx134 : List Nat := [0]
def zTx134 : zS := ([(0, (2, 0, .ofNat 0)), (1, (0, 2, .ofNat 0))], [], [], [(0, .ofNat 0, .ofNat 160), (2, .ofNat 128, .ofNat 2147483647)], [], 3)
def zXx134 : zS := ([], [(0, 1, .negSucc 1)], [], [], [], 2)
def zSx134 : zSm := (63, 2, zTx134, zXx134, zMx134)
def zn134_0 : zNd := (63, 0, zTx134, [], .ofNat 0, [])
def zNx134 : List zNd := [zn134_0]
def zEx134 : List zSm := []
theorem ze134 : ∀ q ∈ zEx134, SmOk LL q := fun _ h => absurd h List.not_mem_nil
def zYx134 : List (Nat × Nat) := []
def zQx134 : List zSp := []
theorem zK134 : zcks LL TTl zMx134 zEx134 zYx134 zNx134 zXx134 zQx134 1 100000 zNx134 = true := by decide +kernel
theorem zO134 : SmOk LL zSx134 := sm_ok (D := 1) (fu := 100000) (SP := zQx134) (NP := zYx134) (ND := zNx134) LL_1 TTl_ok ze134 (zcks_ok zK134) (c := .ofNat 0) rfl List.mem_cons_self
/-- typeFull -/
def zMx135 : List Nat := [0]
def zTx135 : zS := ([(0, (2, 0, .ofNat 0)), (1, (0, 2, .ofNat 0))], [], [], [(0, .ofNat 160, .ofNat 160), (2, .ofNat 0, .ofNat 127)], [], 3)
def zXx135 : zS := ([], [(0, 1, .negSucc 3)], [], [], [], 2)
def zSx135 : zSm := (63, 2, zTx135, zXx135, zMx135)
def zn135_0 : zNd := (63, 0, zTx135, [], .ofNat 0, [])
def zNx135 : List zNd := [zn135_0]
def zEx135 : List zSm := []
theorem ze135 : ∀ q ∈ zEx135, SmOk LL q := fun _ h => absurd h List.not_mem_nil
def zYx135 : List (Nat × Nat) := []
def zQx135 : List zSp := []
theorem zK135 : zcks LL TTl zMx135 zEx135 zYx135 zNx135 zXx135 zQx135 1 100000 zNx135 = true := by decide +kernel
theorem zO135 : SmOk LL zSx135 := sm_ok (D := 1) (fu := 100000) (SP := zQx135) (NP := zYx135) (ND := zNx135) LL_1 TTl_ok ze135 (zcks_ok zK135) (c := .ofNat 0) rfl List.mem_cons_self
/-- typeOk -/
def zMx136 : List Nat := [0, 1, 2]
def zTx136 : zS := ([(0, (2, 0, .ofNat 0)), (1, (0, 2, .ofNat 0))], [], [], [(0, .ofNat 0, .ofNat 159), (2, .ofNat 0, .ofNat 127)], [], 3)
def zXx136 : zS := ([], [(0, 0, .ofNat 1)], [(1, .inr (.inr (.inr (.inr (3, [zp 2, .inr (0, 0, .ofNat 1), zp 3, zi, zi, zi, zi])))))], [], [], 2)
def zSx136 : zSm := (63, 2, zTx136, zXx136, zMx136)
def zn136_0 : zNd := (63, 0, zTx136, [], .ofNat 0, [])
def zNx136 : List zNd := [zn136_0]
def zEx136 : List zSm := []
theorem ze136 : ∀ q ∈ zEx136, SmOk LL q := fun _ h => absurd h List.not_mem_nil
def zYx136 : List (Nat × Nat) := []
def zQx136 : List zSp := []
theorem zK136 : zcks LL TTl zMx136 zEx136 zYx136 zNx136 zXx136 zQx136 1 100000 zNx136 = true := by decide +kernel
theorem zO136 : SmOk LL zSx136 := sm_ok (D := 1) (fu := 100000) (SP := zQx136) (NP := zYx136) (ND := zNx136) LL_1 TTl_ok ze136 (zcks_ok zK136) (c := .ofNat 0) rfl List.mem_cons_self
/-- clear -/
def zMx137 : List Nat := [1]
def zTx137 : zS := ([(0, (2, 0, .ofNat 0))], [], [], [(0, .ofNat 0, .ofNat 160)], [], 2)
def zXx137 : zS := ([], [(0, 0, .ofNat 0)], [(1, .inr (.inr (.inr (.inr (3, [zp 2, .inr (0, 1, .ofNat 0), zp 3, zi, zi, zi, zi])))))], [], [], 2)
def zSx137 : zSm := (64, 2, zTx137, zXx137, zMx137)
def zn137_0 : zNd := (64, 0, zTx137, [], .ofNat 0, [])
def zNx137 : List zNd := [zn137_0]
def zEx137 : List zSm := []
theorem ze137 : ∀ q ∈ zEx137, SmOk LL q := fun _ h => absurd h List.not_mem_nil
def zYx137 : List (Nat × Nat) := []
def zQx137 : List zSp := []
theorem zK137 : zcks LL TTl zMx137 zEx137 zYx137 zNx137 zXx137 zQx137 1 100000 zNx137 = true := by decide +kernel
theorem zO137 : SmOk LL zSx137 := sm_ok (D := 1) (fu := 100000) (SP := zQx137) (NP := zYx137) (ND := zNx137) LL_1 TTl_ok ze137 (zcks_ok zK137) (c := .ofNat 0) rfl List.mem_cons_self
/-- rtypeLo -/
def zMx138 : List Nat := [91]
def zTx138 : zS := ([(0, (2, 89, .ofNat 0)), (1, (0, 26, .ofNat 0))], [], [(90, zWr (.inr (0, 27, .ofNat 0)))], (26, .negSucc 2147483647, .negSucc 0) :: (27, .ofNat 0, .ofNat 6) :: zWB, zWF, 28)
def zXx138 : zS := ([], [(0, 1, .negSucc 1)], [], [], [], 2)
def zSx138 : zSm := (105, 2, zTx138, zXx138, zMx138)
def zn138_0 : zNd := (105, 0, zTx138, [], .ofNat 0, [])
def zNx138 : List zNd := [zn138_0]
def zEx138 : List zSm := []
theorem ze138 : ∀ q ∈ zEx138, SmOk LL q := fun _ h => absurd h List.not_mem_nil
def zYx138 : List (Nat × Nat) := []
def zQx138 : List zSp := []
theorem zK138 : zcks LL TTl zMx138 zEx138 zYx138 zNx138 zXx138 zQx138 1 100000 zNx138 = true := by decide +kernel
theorem zO138 : SmOk LL zSx138 := sm_ok (D := 1) (fu := 100000) (SP := zQx138) (NP := zYx138) (ND := zNx138) LL_1 TTl_ok ze138 (zcks_ok zK138) (c := .ofNat 0) rfl List.mem_cons_self
/-- rtypeHi -/
def zMx139 : List Nat := [91]
def zTx139 : zS := ([(0, (2, 89, .ofNat 0)), (1, (0, 26, .ofNat 0))], [], [(90, zWr (.inr (0, 27, .ofNat 0)))], (26, .ofNat 128, .ofNat 2147483647) :: (27, .ofNat 0, .ofNat 6) :: zWB, zWF, 28)
def zXx139 : zS := ([], [(0, 1, .negSucc 1)], [], [], [], 2)
def zSx139 : zSm := (105, 2, zTx139, zXx139, zMx139)
def zn139_0 : zNd := (105, 0, zTx139, [], .ofNat 0, [])
def zNx139 : List zNd := [zn139_0]
def zEx139 : List zSm := []
theorem ze139 : ∀ q ∈ zEx139, SmOk LL q := fun _ h => absurd h List.not_mem_nil
def zYx139 : List (Nat × Nat) := []
def zQx139 : List zSp := []
theorem zK139 : zcks LL TTl zMx139 zEx139 zYx139 zNx139 zXx139 zQx139 1 100000 zNx139 = true := by decide +kernel
theorem zO139 : SmOk LL zSx139 := sm_ok (D := 1) (fu := 100000) (SP := zQx139) (NP := zYx139) (ND := zNx139) LL_1 TTl_ok ze139 (zcks_ok zK139) (c := .ofNat 0) rfl List.mem_cons_self
/-- rtypeFull -/
def zMx140 : List Nat := [91]
def zTx140 : zS := ([(0, (2, 89, .ofNat 0)), (1, (0, 26, .ofNat 0))], [], [(90, zWr (.inr (0, 27, .ofNat 0)))], (0, .ofNat 160, .ofNat 160) :: (26, .ofNat 0, .ofNat 127) :: (27, .ofNat 0, .ofNat 6) :: zWB, zWF, 28)
def zXx140 : zS := ([], [(0, 1, .negSucc 3)], [], [], [], 2)
def zSx140 : zSm := (105, 2, zTx140, zXx140, zMx140)
def zn140_0 : zNd := (105, 0, zTx140, [], .ofNat 0, [])
def zNx140 : List zNd := [zn140_0]
def zEx140 : List zSm := []
theorem ze140 : ∀ q ∈ zEx140, SmOk LL q := fun _ h => absurd h List.not_mem_nil
def zYx140 : List (Nat × Nat) := []
def zQx140 : List zSp := []
theorem zK140 : zcks LL TTl zMx140 zEx140 zYx140 zNx140 zXx140 zQx140 1 100000 zNx140 = true := by decide +kernel
theorem zO140 : SmOk LL zSx140 := sm_ok (D := 1) (fu := 100000) (SP := zQx140) (NP := zYx140) (ND := zNx140) LL_1 TTl_ok ze140 (zcks_ok zK140) (c := .ofNat 0) rfl List.mem_cons_self
/-- rtypeOk -/
def zMx141 : List Nat := [89, 92]
def zTx141 : zS := ([(0, (2, 89, .ofNat 0)), (1, (0, 26, .ofNat 0))], [], [(90, zWr (.inr (0, 27, .ofNat 0))), (1, .inr (.inr (.inr (.inr (3, [zp 2, zi, zp 3, zi, zi, zi, zi])))))], (0, .ofNat 0, .ofNat 159) :: (26, .ofNat 0, .ofNat 127) :: (27, .ofNat 0, .ofNat 6) :: zWB, zWF, 28)
def zXx141 : zS := ([], [(0, 0, .ofNat 1)], [(1, .inr (.inr (.inr (.inr (3, [zp 2, zi, zp 3, zi, zi, zi, zi]))))), (89, .inr (.inr (.inr (.inr (5, [zp 90, .inl (.ofNat 0, .ofNat 6), zp 91, zp 92, .inr (0, 0, .ofNat 1), zp 93, .inl (.ofNat 0, .ofNat 160), zi, zi, zi, zi, zi, zp 94, zp 95, zp 96, zp 97, zp 98, .inl (.ofNat 0, .ofNat 4), zp 99, .inl (.negSucc 0, .ofNat 3)])))))], [], [], 2)
def zSx141 : zSm := (105, 2, zTx141, zXx141, zMx141)
def zn141_0 : zNd := (105, 0, zTx141, [], .ofNat 0, [])
def zNx141 : List zNd := [zn141_0]
def zEx141 : List zSm := []
theorem ze141 : ∀ q ∈ zEx141, SmOk LL q := fun _ h => absurd h List.not_mem_nil
def zYx141 : List (Nat × Nat) := []
def zQx141 : List zSp := []
theorem zK141 : zcks LL TTl zMx141 zEx141 zYx141 zNx141 zXx141 zQx141 1 100000 zNx141 = true := by decide +kernel
theorem zO141 : SmOk LL zSx141 := sm_ok (D := 1) (fu := 100000) (SP := zQx141) (NP := zYx141) (ND := zNx141) LL_1 TTl_ok ze141 (zcks_ok zK141) (c := .ofNat 0) rfl List.mem_cons_self
/-- rclear -/
def zMx142 : List Nat := [89]
def zTx142 : zS := ([(0, (2, 89, .ofNat 0))], [], [(90, zWr (.inr (0, 26, .ofNat 0))), (1, .inr (.inr (.inr (.inr (3, [zp 2, zi, zp 3, zi, zi, zi, zi])))))], (26, .ofNat 0, .ofNat 6) :: zWB, zWF, 27)
def zXx142 : zS := ([], [(0, 0, .ofNat 0)], [(1, .inr (.inr (.inr (.inr (3, [zp 2, zi, zp 3, zi, zi, zi, zi]))))), (89, .inr (.inr (.inr (.inr (5, [zp 90, .inl (.ofNat 0, .ofNat 6), zp 91, zp 92, .inr (0, 1, .ofNat 0), zp 93, .inl (.ofNat 0, .ofNat 160), zi, zi, zi, zi, zi, zp 94, zp 95, zp 96, zp 97, zp 98, .inl (.ofNat 0, .ofNat 4), zp 99, .inl (.negSucc 0, .ofNat 3)])))))], [], [], 2)
def zSx142 : zSm := (106, 1, zTx142, zXx142, zMx142)
def zn142_0 : zNd := (106, 0, zTx142, [], .ofNat 0, [])
def zNx142 : List zNd := [zn142_0]
def zEx142 : List zSm := []
theorem ze142 : ∀ q ∈ zEx142, SmOk LL q := fun _ h => absurd h List.not_mem_nil
def zYx142 : List (Nat × Nat) := []
def zQx142 : List zSp := []
theorem zK142 : zcks LL TTl zMx142 zEx142 zYx142 zNx142 zXx142 zQx142 0 100000 zNx142 = true := by decide +kernel
theorem zO142 : SmOk LL zSx142 := sm_ok (D := 0) (fu := 100000) (SP := zQx142) (NP := zYx142) (ND := zNx142) LL_1 TTl_ok ze142 (zcks_ok zK142) (c := .ofNat 0) rfl List.mem_cons_self
