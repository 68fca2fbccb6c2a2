/-! the checker on the methods, printed -/
/-- typeLo -/
def zMx126 : List Nat := [0]
def zTx126 : zS := ([(0, (2, 0, .ofNat 0)), (1, (0, 2, .ofNat 0))], [], [], [(0, .ofNat 0, .ofNat 160), (2, .negSucc 2147483647, .negSucc 0)], [], 3)
def zXx126 : zS := ([], [(0, 1, .negSucc 1)], [], [], [], 2)
def zSx126 : zSm := (63, 2, zTx126, zXx126, zMx126)
def zn126_0 : zNd := (63, 0, zTx126, [], .ofNat 0, [])
def zNx126 : List zNd := [zn126_0]
def zEx126 : List zSm := []
theorem ze126 : ∀ q ∈ zEx126, SmOk LL q := fun _ h => absurd h List.not_mem_nil
def zYx126 : List (Nat × Nat) := []
def zQx126 : List zSp := []
theorem zK126 : zcks LL TTl zMx126 zEx126 zYx126 zNx126 zXx126 zQx126 1 100000 zNx126 = true := by decide +kernel
theorem zO126 : SmOk LL zSx126 := sm_ok (D := 1) (fu := 100000) (SP := zQx126) (NP := zYx126) (ND := zNx126) LL_1 TTl_ok ze126 (zcks_ok zK126) (c := .ofNat 0) rfl List.mem_cons_self
/-- typeHi -/
def zMx127 : List Nat := [0]
def zTx127 : zS := ([(0, (2, 0, .ofNat 0)), (1, (0, 2, .ofNat 0))], [], [], [(0, .ofNat 0, .ofNat 160), (2, .ofNat 128, .ofNat 2147483647)], [], 3)
def zXx127 : zS := ([], [(0, 1, .negSucc 1)], [], [], [], 2)
def zSx127 : zSm := (63, 2, zTx127, zXx127, zMx127)
def zn127_0 : zNd := (63, 0, zTx127, [], .ofNat 0, [])
def zNx127 : List zNd := [zn127_0]
def zEx127 : List zSm := []
theorem ze127 : ∀ q ∈ zEx127, SmOk LL q := fun _ h => absurd h List.not_mem_nil
def zYx127 : List (Nat × Nat) := []
def zQx127 : List zSp := []
theorem zK127 : zcks LL TTl zMx127 zEx127 zYx127 zNx127 zXx127 zQx127 1 100000 zNx127 = true := by decide +kernel
theorem zO127 : SmOk LL zSx127 := sm_ok (D := 1) (fu := 100000) (SP := zQx127) (NP := zYx127) (ND := zNx127) LL_1 TTl_ok ze127 (zcks_ok zK127) (c := .ofNat 0) rfl List.mem_cons_self
/-- typeFull -/
def zMx128 : List Nat := [0]
def zTx128 : zS := ([(0, (2, 0, .ofNat 0)), (1, (0, 2, .ofNat 0))], [], [], [(0, .ofNat 160, .ofNat 160), (2, .ofNat 0, .ofNat 127)], [], 3)
def zXx128 : zS := ([], [(0, 1, .negSucc 3)], [], [], [], 2)
def zSx128 : zSm := (63, 2, zTx128, zXx128, zMx128)
def zn128_0 : zNd := (63, 0, zTx128, [], .ofNat 0, [])
def zNx128 : List zNd := [zn128_0]
def zEx128 : List zSm := []
theorem ze128 : ∀ q ∈ zEx128, SmOk LL q := fun _ h => absurd h List.not_mem_nil
def zYx128 : List (Nat × Nat) := []
def zQx128 : List zSp := []
theorem zK128 : zcks LL TTl zMx128 zEx128 zYx128 zNx128 zXx128 zQx128 1 100000 zNx128 = true := by decide +kernel
theorem zO128 : SmOk LL zSx128 := sm_ok (D := 1) (fu := 100000) (SP := zQx128) (NP := zYx128) (ND := zNx128) LL_1 TTl_ok ze128 (zcks_ok zK128) (c := .ofNat 0) rfl List.mem_cons_self
/-- typeOk -/
def zMx129 : List Nat := [0, 1, 2]
def zTx129 : zS := ([(0, (2, 0, .ofNat 0)), (1, (0, 2, .ofNat 0))], [], [], [(0, .ofNat 0, .ofNat 159), (2, .ofNat 0, .ofNat 127)], [], 3)
def zXx129 : zS := ([], [(0, 0, .ofNat 1)], [(1, .inr (.inr (.inr (.inr (3, [zp 2, .inr (0, 0, .ofNat 1), zp 3, zi, zi, zi, zi])))))], [], [], 2)
def zSx129 : zSm := (63, 2, zTx129, zXx129, zMx129)
def zn129_0 : zNd := (63, 0, zTx129, [], .ofNat 0, [])
def zNx129 : List zNd := [zn129_0]
def zEx129 : List zSm := []
theorem ze129 : ∀ q ∈ zEx129, SmOk LL q := fun _ h => absurd h List.not_mem_nil
def zYx129 : List (Nat × Nat) := []
def zQx129 : List zSp := []
theorem zK129 : zcks LL TTl zMx129 zEx129 zYx129 zNx129 zXx129 zQx129 1 100000 zNx129 = true := by decide +kernel
theorem zO129 : SmOk LL zSx129 := sm_ok (D := 1) (fu := 100000) (SP := zQx129) (NP := zYx129) (ND := zNx129) LL_1 TTl_ok ze129 (zcks_ok zK129) (c := .ofNat 0) rfl List.mem_cons_self
/-- clear -/
def zMx130 : List Nat := [1]
def zTx130 : zS := ([(0, (2, 0, .ofNat 0))], [], [], [(0, .ofNat 0, .ofNat 160)], [], 2)
def zXx130 : zS := ([], [(0, 0, .ofNat 0)], [(1, .inr (.inr (.inr (.inr (3, [zp 2, .inr (0, 1, .ofNat 0), zp 3, zi, zi, zi, zi])))))], [], [], 2)
def zSx130 : zSm := (64, 2, zTx130, zXx130, zMx130)
def zn130_0 : zNd := (64, 0, zTx130, [], .ofNat 0, [])
def zNx130 : List zNd := [zn130_0]
def zEx130 : List zSm := []
theorem ze130 : ∀ q ∈ zEx130, SmOk LL q := fun _ h => absurd h List.not_mem_nil
def zYx130 : List (Nat × Nat) := []
def zQx130 : List zSp := []
theorem zK130 : zcks LL TTl zMx130 zEx130 zYx130 zNx130 zXx130 zQx130 1 100000 zNx130 = true := by decide +kernel
theorem zO130 : SmOk LL zSx130 := sm_ok (D := 1) (fu := 100000) (SP := zQx130) (NP := zYx130) (ND := zNx130) LL_1 TTl_ok ze130 (zcks_ok zK130) (c := .ofNat 0) rfl List.mem_cons_self
/-- rtypeLo -/
def zMx131 : List Nat := [91]
def zTx131 : zS := ([(0, (2, 89, .ofNat 0)), (1, (0, 26, .ofNat 0))], [], [(90, zWr (.inr (0, 27, .ofNat 0)))], (26, .negSucc 2147483647, .negSucc 0) :: (27, .ofNat 0, .ofNat 6) :: zWB, zWF, 28)
def zXx131 : zS := ([], [(0, 1, .negSucc 1)], [], [], [], 2)
def zSx131 : zSm := (105, 2, zTx131, zXx131, zMx131)
def zn131_0 : zNd := (105, 0, zTx131, [], .ofNat 0, [])
def zNx131 : List zNd := [zn131_0]
def zEx131 : List zSm := []
theorem ze131 : ∀ q ∈ zEx131, SmOk LL q := fun _ h => absurd h List.not_mem_nil
def zYx131 : List (Nat × Nat) := []
def zQx131 : List zSp := []
theorem zK131 : zcks LL TTl zMx131 zEx131 zYx131 zNx131 zXx131 zQx131 1 100000 zNx131 = true := by decide +kernel
theorem zO131 : SmOk LL zSx131 := sm_ok (D := 1) (fu := 100000) (SP := zQx131) (NP := zYx131) (ND := zNx131) LL_1 TTl_ok ze131 (zcks_ok zK131) (c := .ofNat 0) rfl List.mem_cons_self
/-- rtypeHi -/
def zMx132 : List Nat := [91]
def zTx132 : zS := ([(0, (2, 89, .ofNat 0)), (1, (0, 26, .ofNat 0))], [], [(90, zWr (.inr (0, 27, .ofNat 0)))], (26, .ofNat 128, .ofNat 2147483647) :: (27, .ofNat 0, .ofNat 6) :: zWB, zWF, 28)
def zXx132 : zS := ([], [(0, 1, .negSucc 1)], [], [], [], 2)
def zSx132 : zSm := (105, 2, zTx132, zXx132, zMx132)
def zn132_0 : zNd := (105, 0, zTx132, [], .ofNat 0, [])
def zNx132 : List zNd := [zn132_0]
def zEx132 : List zSm := []
theorem ze132 : ∀ q ∈ zEx132, SmOk LL q := fun _ h => absurd h List.not_mem_nil
def zYx132 : List (Nat × Nat) := []
def zQx132 : List zSp := []
theorem zK132 : zcks LL TTl zMx132 zEx132 zYx132 zNx132 zXx132 zQx132 1 100000 zNx132 = true := by decide +kernel
theorem zO132 : SmOk LL zSx132 := sm_ok (D := 1) (fu := 100000) (SP := zQx132) (NP := zYx132) (ND := zNx132) LL_1 TTl_ok ze132 (zcks_ok zK132) (c := .ofNat 0) rfl List.mem_cons_self
/-- rtypeFull -/
def zMx133 : List Nat := [91]
def zTx133 : zS := ([(0, (2, 89, .ofNat 0)), (1, (0, 26, .ofNat 0))], [], [(90, zWr (.inr (0, 27, .ofNat 0)))], (0, .ofNat 160, .ofNat 160) :: (26, .ofNat 0, .ofNat 127) :: (27, .ofNat 0, .ofNat 6) :: zWB, zWF, 28)
def zXx133 : zS := ([], [(0, 1, .negSucc 3)], [], [], [], 2)
def zSx133 : zSm := (105, 2, zTx133, zXx133, zMx133)
def zn133_0 : zNd := (105, 0, zTx133, [], .ofNat 0, [])
def zNx133 : List zNd := [zn133_0]
def zEx133 : List zSm := []
theorem ze133 : ∀ q ∈ zEx133, SmOk LL q := fun _ h => absurd h List.not_mem_nil
def zYx133 : List (Nat × Nat) := []
def zQx133 : List zSp := []
theorem zK133 : zcks LL TTl zMx133 zEx133 zYx133 zNx133 zXx133 zQx133 1 100000 zNx133 = true := by decide +kernel
theorem zO133 : SmOk LL zSx133 := sm_ok (D := 1) (fu := 100000) (SP := zQx133) (NP := zYx133) (ND := zNx133) LL_1 TTl_ok ze133 (zcks_ok zK133) (c := .ofNat 0) rfl List.mem_cons_self
/-- rtypeOk -/
def zMx134 : List Nat := [89, 92]
def zTx134 : zS := ([(0, (2, 89, .ofNat 0)), (1, (0, 26, .ofNat 0))], [], [(90, zWr (.inr (0, 27, .ofNat 0))), (1, .inr (.inr (.inr (.inr (3, [zp 2, zi, zp 3, zi, zi, zi, zi])))))], (0, .ofNat 0, .ofNat 159) :: (26, .ofNat 0, .ofNat 127) :: (27, .ofNat 0, .ofNat 6) :: zWB, zWF, 28)
def zXx134 : zS := ([], [(0, 0, .ofNat 1)], [(1, .inr (.inr (.inr (.inr (3, [zp 2, zi, zp 3, zi, zi, zi, zi]))))), (89, .inr (.inr (.inr (.inr (5, [zp 90, .inl (.ofNat 0, .ofNat 6), zp 91, zp 92, .inr (0, 0, .ofNat 1), zp 93, .inl (.ofNat 0, .ofNat 160), zi, zi, zi, zi, zi, zp 94, zp 95, zp 96, zp 97, zp 98, .inl (.ofNat 0, .ofNat 4), zp 99, .inl (.negSucc 0, .ofNat 3)])))))], [], [], 2)
def zSx134 : zSm := (105, 2, zTx134, zXx134, zMx134)
def zn134_0 : zNd := (105, 0, zTx134, [], .ofNat 0, [])
def zNx134 : List zNd := [zn134_0]
def zEx134 : List zSm := []
theorem ze134 : ∀ q ∈ zEx134, SmOk LL q := fun _ h => absurd h List.not_mem_nil
def zYx134 : List (Nat × Nat) := []
def zQx134 : List zSp := []
theorem zK134 : zcks LL TTl zMx134 zEx134 zYx134 zNx134 zXx134 zQx134 1 100000 zNx134 = true := by decide +kernel
theorem zO134 : SmOk LL zSx134 := sm_ok (D := 1) (fu := 100000) (SP := zQx134) (NP := zYx134) (ND := zNx134) LL_1 TTl_ok ze134 (zcks_ok zK134) (c := .ofNat 0) rfl List.mem_cons_self
/-- rclear -/
def zMx135 : List Nat := [89]
def zTx135 : zS := ([(0, (2, 89, .ofNat 0))], [], [(90, zWr (.inr (0, 26, .ofNat 0))), (1, .inr (.inr (.inr (.inr (3, [zp 2, zi, zp 3, zi, zi, zi, zi])))))], (26, .ofNat 0, .ofNat 6) :: zWB, zWF, 27)
def zXx135 : zS := ([], [(0, 0, .ofNat 0)], [(1, .inr (.inr (.inr (.inr (3, [zp 2, zi, zp 3, zi, zi, zi, zi]))))), (89, .inr (.inr (.inr (.inr (5, [zp 90, .inl (.ofNat 0, .ofNat 6), zp 91, zp 92, .inr (0, 1, .ofNat 0), zp 93, .inl (.ofNat 0, .ofNat 160), zi, zi, zi, zi, zi, zp 94, zp 95, zp 96, zp 97, zp 98, .inl (.ofNat 0, .ofNat 4), zp 99, .inl (.negSucc 0, .ofNat 3)])))))], [], [], 2)
def zSx135 : zSm := (106, 1, zTx135, zXx135, zMx135)
def zn135_0 : zNd := (106, 0, zTx135, [], .ofNat 0, [])
def zNx135 : List zNd := [zn135_0]
def zEx135 : List zSm := []
theorem ze135 : ∀ q ∈ zEx135, SmOk LL q := fun _ h => absurd h List.not_mem_nil
def zYx135 : List (Nat × Nat) := []
def zQx135 : List zSp := []
theorem zK135 : zcks LL TTl zMx135 zEx135 zYx135 zNx135 zXx135 zQx135 0 100000 zNx135 = true := by decide +kernel
theorem zO135 : SmOk LL zSx135 := sm_ok (D := 0) (fu := 100000) (SP := zQx135) (NP := zYx135) (ND := zNx135) LL_1 TTl_ok ze135 (zcks_ok zK135) (c := .ofNat 0) rfl List.mem_cons_self
