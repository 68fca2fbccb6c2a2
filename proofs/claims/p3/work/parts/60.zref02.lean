/-! the checker on the methods, printed -/
/-- left6 -/
def zMx78 : List Nat := []
def zTx78 : zS := ([(0, (2, 89, .ofNat 0))], [], [(90, zWr (.inr (0, 1, .ofNat 6)))], zWB, zWF, 26)
def zXx78 : zS := ([], [(0, 2, .ofNat 0)], [], [(2, .ofNat 0, .ofNat 63)], [], 3)
def zSx78 : zSm := (142, 1, zTx78, zXx78, zMx78)
def zn78_0 : zNd := (142, 0, zTx78, [], .ofNat 0, [])
def zNx78 : List zNd := [zn78_0]
def zEx78 : List zSm := []
theorem ze78 : ∀ q ∈ zEx78, SmOk LL q := fun _ h => absurd h List.not_mem_nil
def zYx78 : List (Nat × Nat) := []
def zQx78 : List zSp := []
theorem zK78 : zcks LL TTl zMx78 zEx78 zYx78 zNx78 zXx78 zQx78 0 100000 zNx78 = true := by decide +kernel
theorem zO78 : SmOk LL zSx78 := sm_ok (D := 0) (fu := 100000) (SP := zQx78) (NP := zYx78) (ND := zNx78) LL_1 TTl_ok ze78 (zcks_ok zK78) (c := .ofNat 0) rfl List.mem_cons_self
/-- left -/
def zMx79 : List Nat := []
def zTx79 : zS := ([(0, (2, 89, .ofNat 0))], [], [(90, zWr (.inr (0, 26, .ofNat 0)))], (26, .ofNat 0, .ofNat 6) :: zWB, zWF, 27)
def zXx79 : zS := ([], [(0, 2, .ofNat 0)], [], [(2, .ofNat 0, .ofNat 63)], [], 3)
def zSx79 : zSm := (142, 1, zTx79, zXx79, zMx79)
def zn79_0 : zNd := (142, 0, zTx79, [], .ofNat 0, [])
def zNx79 : List zNd := [zn79_0]
def zEx79 : List zSm := []
theorem ze79 : ∀ q ∈ zEx79, SmOk LL q := fun _ h => absurd h List.not_mem_nil
def zYx79 : List (Nat × Nat) := []
def zQx79 : List zSp := []
theorem zK79 : zcks LL TTl zMx79 zEx79 zYx79 zNx79 zXx79 zQx79 0 100000 zNx79 = true := by decide +kernel
theorem zO79 : SmOk LL zSx79 := sm_ok (D := 0) (fu := 100000) (SP := zQx79) (NP := zYx79) (ND := zNx79) LL_1 TTl_ok ze79 (zcks_ok zK79) (c := .ofNat 0) rfl List.mem_cons_self
/-- laysWithin1 -/
def zMx80 : List Nat := [89, 94, 95, 97, 98, 99]
def zTx80 : zS := ([(1, (0, 1, .ofNat 1)), (0, (2, 89, .ofNat 0))], [], [(90, zWr (.inr (0, 1, .ofNat 1)))], (4, .ofNat 1, .ofNat 4) :: zWB, zWF, 26)
def zXx80 : zS := ([], [], [], [], [], 2)
def zSx80 : zSm := (151, 4, zTx80, zXx80, zMx80)
def zn80_0 : zNd := (151, 0, zTx80, [], .ofNat 2244, [])
def zn80_1 : zNd := (151, 28, ([(1, (0, 1, .ofNat 1)), (0, (2, 89, .ofNat 0)), (2, (0, 26, .ofNat 0)), (3, (0, 27, .ofNat 0))], [], [(90, zWr (.inr (0, 1, .ofNat 1)))], (4, .ofNat 1, .ofNat 4) :: (26, .ofNat 0, .ofNat 3) :: (27, .ofNat 0, .ofNat 16) :: zWB, zWF, 28), [], .ofNat 2242, [(.negSucc 131, 27)])
def zn80_2 : zNd := (151, 37, ([(1, (0, 1, .ofNat 1)), (0, (2, 89, .ofNat 0)), (2, (0, 26, .ofNat 0)), (3, (0, 27, .ofNat 0)), (4, (0, 28, .ofNat 0))], [], [(90, zWr (.inr (0, 1, .ofNat 1)))], (4, .ofNat 1, .ofNat 4) :: (26, .ofNat 0, .ofNat 3) :: (27, .ofNat 0, .ofNat 15) :: (28, .ofNat 0, .ofNat 64) :: zWB, zWF, 29), [], .ofNat 2240, [(.negSucc 131, 27), (.negSucc 1, 28)])
def zNx80 : List zNd := [zn80_0, zn80_1, zn80_2]
def zEx80 : List zSm := [zSx57, zSx67, zSx68, zSx69]
theorem ze80 : ∀ q ∈ zEx80, SmOk LL q := List.forall_mem_cons.mpr ⟨zO57, List.forall_mem_cons.mpr ⟨zO67, List.forall_mem_cons.mpr ⟨zO68, List.forall_mem_cons.mpr ⟨zO69, fun _ h => absurd h List.not_mem_nil⟩⟩⟩⟩
def zYx80 : List (Nat × Nat) := [(151, 28), (151, 37)]
def zQx80 : List zSp := [(151, 0, 0, 1, 0, none)]
theorem zK80 : zcks LL TTl zMx80 zEx80 zYx80 zNx80 zXx80 zQx80 3 100000 zNx80 = true := by decide +kernel
theorem zO80 : SmOk LL zSx80 := sm_ok (D := 3) (fu := 100000) (SP := zQx80) (NP := zYx80) (ND := zNx80) LL_1 TTl_ok ze80 (zcks_ok zK80) (c := .ofNat 2244) rfl List.mem_cons_self
/-- laysWithin2 -/
def zMx81 : List Nat := [89, 94, 95, 97, 98, 99]
def zTx81 : zS := ([(0, (2, 89, .ofNat 0)), (1, (0, 26, .ofNat 0))], [], [(90, zWr (.inr (0, 1, .ofNat 2)))], (4, .ofNat 1, .ofNat 4) :: (26, .ofNat 1, .ofNat 3) :: zWB, zWF, 27)
def zXx81 : zS := ([], [], [], [], [], 2)
def zSx81 : zSm := (151, 4, zTx81, zXx81, zMx81)
def zn81_0 : zNd := (151, 0, zTx81, [], .ofNat 2244, [])
def zn81_1 : zNd := (151, 28, ([(0, (2, 89, .ofNat 0)), (1, (0, 26, .ofNat 0)), (2, (0, 27, .ofNat 0)), (3, (0, 28, .ofNat 0))], [], [(90, zWr (.inr (0, 1, .ofNat 2)))], (4, .ofNat 1, .ofNat 4) :: (26, .ofNat 1, .ofNat 3) :: (27, .ofNat 0, .ofNat 3) :: (28, .ofNat 0, .ofNat 16) :: zWB, zWF, 29), [], .ofNat 2242, [(.negSucc 131, 28)])
def zn81_2 : zNd := (151, 37, ([(0, (2, 89, .ofNat 0)), (1, (0, 26, .ofNat 0)), (2, (0, 27, .ofNat 0)), (3, (0, 28, .ofNat 0)), (4, (0, 29, .ofNat 0))], [], [(90, zWr (.inr (0, 1, .ofNat 2)))], (4, .ofNat 1, .ofNat 4) :: (26, .ofNat 1, .ofNat 3) :: (27, .ofNat 0, .ofNat 3) :: (28, .ofNat 0, .ofNat 15) :: (29, .ofNat 0, .ofNat 64) :: zWB, zWF, 30), [], .ofNat 2240, [(.negSucc 131, 28), (.negSucc 1, 29)])
def zNx81 : List zNd := [zn81_0, zn81_1, zn81_2]
def zEx81 : List zSm := [zSx58, zSx67, zSx68, zSx69]
theorem ze81 : ∀ q ∈ zEx81, SmOk LL q := List.forall_mem_cons.mpr ⟨zO58, List.forall_mem_cons.mpr ⟨zO67, List.forall_mem_cons.mpr ⟨zO68, List.forall_mem_cons.mpr ⟨zO69, fun _ h => absurd h List.not_mem_nil⟩⟩⟩⟩
def zYx81 : List (Nat × Nat) := [(151, 28), (151, 37)]
def zQx81 : List zSp := [(151, 0, 0, 1, 0, none)]
theorem zK81 : zcks LL TTl zMx81 zEx81 zYx81 zNx81 zXx81 zQx81 3 100000 zNx81 = true := by decide +kernel
theorem zO81 : SmOk LL zSx81 := sm_ok (D := 3) (fu := 100000) (SP := zQx81) (NP := zYx81) (ND := zNx81) LL_1 TTl_ok ze81 (zcks_ok zK81) (c := .ofNat 2244) rfl List.mem_cons_self
/-- laysWithin3 -/
def zMx82 : List Nat := [89, 94, 95, 97, 98, 99]
def zTx82 : zS := ([(0, (2, 89, .ofNat 0)), (1, (0, 26, .ofNat 0))], [], [(90, zWr (.inr (0, 1, .ofNat 3)))], (4, .ofNat 1, .ofNat 4) :: (26, .ofNat 1, .ofNat 7) :: zWB, zWF, 27)
def zXx82 : zS := ([], [], [], [], [], 2)
def zSx82 : zSm := (151, 4, zTx82, zXx82, zMx82)
def zn82_0 : zNd := (151, 0, zTx82, [], .ofNat 2244, [])
def zn82_1 : zNd := (151, 28, ([(0, (2, 89, .ofNat 0)), (1, (0, 26, .ofNat 0)), (2, (0, 27, .ofNat 0)), (3, (0, 28, .ofNat 0))], [], [(90, zWr (.inr (0, 1, .ofNat 3)))], (4, .ofNat 1, .ofNat 4) :: (26, .ofNat 1, .ofNat 7) :: (27, .ofNat 0, .ofNat 3) :: (28, .ofNat 0, .ofNat 16) :: zWB, zWF, 29), [], .ofNat 2242, [(.negSucc 131, 28)])
def zn82_2 : zNd := (151, 37, ([(0, (2, 89, .ofNat 0)), (1, (0, 26, .ofNat 0)), (2, (0, 27, .ofNat 0)), (3, (0, 28, .ofNat 0)), (4, (0, 29, .ofNat 0))], [], [(90, zWr (.inr (0, 1, .ofNat 3)))], (4, .ofNat 1, .ofNat 4) :: (26, .ofNat 1, .ofNat 7) :: (27, .ofNat 0, .ofNat 3) :: (28, .ofNat 0, .ofNat 15) :: (29, .ofNat 0, .ofNat 64) :: zWB, zWF, 30), [], .ofNat 2240, [(.negSucc 131, 28), (.negSucc 1, 29)])
def zNx82 : List zNd := [zn82_0, zn82_1, zn82_2]
def zEx82 : List zSm := [zSx59, zSx67, zSx68, zSx69]
theorem ze82 : ∀ q ∈ zEx82, SmOk LL q := List.forall_mem_cons.mpr ⟨zO59, List.forall_mem_cons.mpr ⟨zO67, List.forall_mem_cons.mpr ⟨zO68, List.forall_mem_cons.mpr ⟨zO69, fun _ h => absurd h List.not_mem_nil⟩⟩⟩⟩
def zYx82 : List (Nat × Nat) := [(151, 28), (151, 37)]
def zQx82 : List zSp := [(151, 0, 0, 1, 0, none)]
theorem zK82 : zcks LL TTl zMx82 zEx82 zYx82 zNx82 zXx82 zQx82 3 100000 zNx82 = true := by decide +kernel
theorem zO82 : SmOk LL zSx82 := sm_ok (D := 3) (fu := 100000) (SP := zQx82) (NP := zYx82) (ND := zNx82) LL_1 TTl_ok ze82 (zcks_ok zK82) (c := .ofNat 2244) rfl List.mem_cons_self
/-- laysWithin4 -/
def zMx83 : List Nat := [89, 94, 95, 97, 98, 99]
def zTx83 : zS := ([(0, (2, 89, .ofNat 0)), (1, (0, 26, .ofNat 0))], [], [(90, zWr (.inr (0, 1, .ofNat 4)))], (4, .ofNat 1, .ofNat 4) :: (26, .ofNat 1, .ofNat 15) :: zWB, zWF, 27)
def zXx83 : zS := ([], [], [], [], [], 2)
def zSx83 : zSm := (151, 4, zTx83, zXx83, zMx83)
def zn83_0 : zNd := (151, 0, zTx83, [], .ofNat 2244, [])
def zn83_1 : zNd := (151, 28, ([(0, (2, 89, .ofNat 0)), (1, (0, 26, .ofNat 0)), (2, (0, 27, .ofNat 0)), (3, (0, 28, .ofNat 0))], [], [(90, zWr (.inr (0, 1, .ofNat 4)))], (4, .ofNat 1, .ofNat 4) :: (26, .ofNat 1, .ofNat 15) :: (27, .ofNat 0, .ofNat 3) :: (28, .ofNat 0, .ofNat 16) :: zWB, zWF, 29), [], .ofNat 2242, [(.negSucc 131, 28)])
def zn83_2 : zNd := (151, 37, ([(0, (2, 89, .ofNat 0)), (1, (0, 26, .ofNat 0)), (2, (0, 27, .ofNat 0)), (3, (0, 28, .ofNat 0)), (4, (0, 29, .ofNat 0))], [], [(90, zWr (.inr (0, 1, .ofNat 4)))], (4, .ofNat 1, .ofNat 4) :: (26, .ofNat 1, .ofNat 15) :: (27, .ofNat 0, .ofNat 3) :: (28, .ofNat 0, .ofNat 15) :: (29, .ofNat 0, .ofNat 64) :: zWB, zWF, 30), [], .ofNat 2240, [(.negSucc 131, 28), (.negSucc 1, 29)])
def zNx83 : List zNd := [zn83_0, zn83_1, zn83_2]
def zEx83 : List zSm := [zSx60, zSx67, zSx68, zSx69]
theorem ze83 : ∀ q ∈ zEx83, SmOk LL q := List.forall_mem_cons.mpr ⟨zO60, List.forall_mem_cons.mpr ⟨zO67, List.forall_mem_cons.mpr ⟨zO68, List.forall_mem_cons.mpr ⟨zO69, fun _ h => absurd h List.not_mem_nil⟩⟩⟩⟩
def zYx83 : List (Nat × Nat) := [(151, 28), (151, 37)]
def zQx83 : List zSp := [(151, 0, 0, 1, 0, none)]
theorem zK83 : zcks LL TTl zMx83 zEx83 zYx83 zNx83 zXx83 zQx83 3 100000 zNx83 = true := by decide +kernel
theorem zO83 : SmOk LL zSx83 := sm_ok (D := 3) (fu := 100000) (SP := zQx83) (NP := zYx83) (ND := zNx83) LL_1 TTl_ok ze83 (zcks_ok zK83) (c := .ofNat 2244) rfl List.mem_cons_self
