/-! the checker on the methods, printed -/
/-- left6 -/
def zMx78 : List Nat := []
def zTx78 : zS := ([(0, (2, 89, .ofNat 0))], [], [(90, zWr (.inr (0, 1, .ofNat 6)))], zWB, zWF, 26)
def zXx78 : zS := ([], [(0, 2, .ofNat 0)], [], [(2, .ofNat 0, .ofNat 63)], [], 3)
def zSx78 : zSm := (142, 1, zTx78, zXx78, zMx78)
def zn78_0 : zNd := (142, 0, zTx78, [], .ofNat 0, [])
def zNx78 : List zNd := [zn78_0]
def zEx78 : List zSm := []
theorem ze78 : ∀ q ∈ zEx78, SmOk LL q := fun _ h => absurd h List.not_mem_nil
def zYx78 : List (Nat × Nat) := []
def zQx78 : List zSp := []
theorem zK78 : zcks LL TTl zMx78 zEx78 zYx78 zNx78 zXx78 zQx78 0 100000 zNx78 = true := by decide +kernel
theorem zO78 : SmOk LL zSx78 := sm_ok (D := 0) (fu := 100000) (SP := zQx78) (NP := zYx78) (ND := zNx78) LL_1 TTl_ok ze78 (zcks_ok zK78) (c := .ofNat 0) rfl List.mem_cons_self
/-- left -/
def zMx79 : List Nat := []
def zTx79 : zS := ([(0, (2, 89, .ofNat 0))], [], [(90, zWr (.inr (0, 26, .ofNat 0)))], (26, .ofNat 0, .ofNat 6) :: zWB, zWF, 27)
def zXx79 : zS := ([], [(0, 2, .ofNat 0)], [], [(2, .ofNat 0, .ofNat 63)], [], 3)
def zSx79 : zSm := (142, 1, zTx79, zXx79, zMx79)
def zn79_0 : zNd := (142, 0, zTx79, [], .ofNat 0, [])
def zNx79 : List zNd := [zn79_0]
def zEx79 : List zSm := []
theorem ze79 : ∀ q ∈ zEx79, SmOk LL q := fun _ h => absurd h List.not_mem_nil
def zYx79 : List (Nat × Nat) := []
def zQx79 : List zSp := []
theorem zK79 : zcks LL TTl zMx79 zEx79 zYx79 zNx79 zXx79 zQx79 0 100000 zNx79 = true := by decide +kernel
theorem zO79 : SmOk LL zSx79 := sm_ok (D := 0) (fu := 100000) (SP := zQx79) (NP := zYx79) (ND := zNx79) LL_1 TTl_ok ze79 (zcks_ok zK79) (c := .ofNat 0) rfl List.mem_cons_self
/-- ones1 -/
def zMx80 : List Nat := []
def zTx80 : zS := ([(0, (0, 1, .ofNat 1))], [], [], [(0, .ofNat 0, .ofNat 160)], [], 2)
def zXx80 : zS := ([], [(0, 1, .ofNat 1)], [], [], [], 2)
def zSx80 : zSm := (98, 1, zTx80, zXx80, zMx80)
def zn80_0 : zNd := (98, 0, zTx80, [], .ofNat 0, [])
def zNx80 : List zNd := [zn80_0]
def zEx80 : List zSm := []
theorem ze80 : ∀ q ∈ zEx80, SmOk LL q := fun _ h => absurd h List.not_mem_nil
def zYx80 : List (Nat × Nat) := []
def zQx80 : List zSp := [(98, 0, 0, 0, 0, none)]
theorem zK80 : zcks LL TTl zMx80 zEx80 zYx80 zNx80 zXx80 zQx80 0 100000 zNx80 = true := by decide +kernel
theorem zO80 : SmOk LL zSx80 := sm_ok (D := 0) (fu := 100000) (SP := zQx80) (NP := zYx80) (ND := zNx80) LL_1 TTl_ok ze80 (zcks_ok zK80) (c := .ofNat 0) rfl List.mem_cons_self
/-- ones2 -/
def zMx81 : List Nat := []
def zTx81 : zS := ([(0, (0, 2, .ofNat 0))], [], [], [(0, .ofNat 0, .ofNat 160), (2, .ofNat 1, .ofNat 3)], [], 3)
def zXx81 : zS := ([], [(0, 2, .ofNat 0)], [], [(2, .ofNat 1, .ofNat 2)], [], 3)
def zSx81 : zSm := (98, 1, zTx81, zXx81, zMx81)
def zn81_0 : zNd := (98, 0, zTx81, [], .ofNat 0, [])
def zNx81 : List zNd := [zn81_0]
def zEx81 : List zSm := []
theorem ze81 : ∀ q ∈ zEx81, SmOk LL q := fun _ h => absurd h List.not_mem_nil
def zYx81 : List (Nat × Nat) := []
def zQx81 : List zSp := [(98, 0, 0, 0, 0, none)]
theorem zK81 : zcks LL TTl zMx81 zEx81 zYx81 zNx81 zXx81 zQx81 0 100000 zNx81 = true := by decide +kernel
theorem zO81 : SmOk LL zSx81 := sm_ok (D := 0) (fu := 100000) (SP := zQx81) (NP := zYx81) (ND := zNx81) LL_1 TTl_ok ze81 (zcks_ok zK81) (c := .ofNat 0) rfl List.mem_cons_self
/-- ones3 -/
def zMx82 : List Nat := []
def zTx82 : zS := ([(0, (0, 2, .ofNat 0))], [], [], [(0, .ofNat 0, .ofNat 160), (2, .ofNat 1, .ofNat 7)], [], 3)
def zXx82 : zS := ([], [(0, 2, .ofNat 0)], [], [(2, .ofNat 1, .ofNat 3)], [], 3)
def zSx82 : zSm := (98, 1, zTx82, zXx82, zMx82)
def zn82_0 : zNd := (98, 0, zTx82, [], .ofNat 0, [])
def zNx82 : List zNd := [zn82_0]
def zEx82 : List zSm := []
theorem ze82 : ∀ q ∈ zEx82, SmOk LL q := fun _ h => absurd h List.not_mem_nil
def zYx82 : List (Nat × Nat) := []
def zQx82 : List zSp := [(98, 0, 0, 0, 0, none)]
theorem zK82 : zcks LL TTl zMx82 zEx82 zYx82 zNx82 zXx82 zQx82 0 100000 zNx82 = true := by decide +kernel
theorem zO82 : SmOk LL zSx82 := sm_ok (D := 0) (fu := 100000) (SP := zQx82) (NP := zYx82) (ND := zNx82) LL_1 TTl_ok ze82 (zcks_ok zK82) (c := .ofNat 0) rfl List.mem_cons_self
/-- ones4 -/
def zMx83 : List Nat := []
def zTx83 : zS := ([(0, (0, 2, .ofNat 0))], [], [], [(0, .ofNat 0, .ofNat 160), (2, .ofNat 1, .ofNat 15)], [], 3)
def zXx83 : zS := ([], [(0, 2, .ofNat 0)], [], [(2, .ofNat 1, .ofNat 4)], [], 3)
def zSx83 : zSm := (98, 1, zTx83, zXx83, zMx83)
def zn83_0 : zNd := (98, 0, zTx83, [], .ofNat 0, [])
def zNx83 : List zNd := [zn83_0]
def zEx83 : List zSm := []
theorem ze83 : ∀ q ∈ zEx83, SmOk LL q := fun _ h => absurd h List.not_mem_nil
def zYx83 : List (Nat × Nat) := []
def zQx83 : List zSp := [(98, 0, 0, 0, 0, none)]
theorem zK83 : zcks LL TTl zMx83 zEx83 zYx83 zNx83 zXx83 zQx83 0 100000 zNx83 = true := by decide +kernel
theorem zO83 : SmOk LL zSx83 := sm_ok (D := 0) (fu := 100000) (SP := zQx83) (NP := zYx83) (ND := zNx83) LL_1 TTl_ok ze83 (zcks_ok zK83) (c := .ofNat 0) rfl List.mem_cons_self
