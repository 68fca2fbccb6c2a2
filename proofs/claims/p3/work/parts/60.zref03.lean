/-! the checker on the methods, printed -/
/-- laysWithin5 -/
def zMx84 : List Nat := [89, 94, 95, 97, 98, 99]
def zTx84 : zS := ([(0, (2, 89, .ofNat 0)), (1, (0, 26, .ofNat 0))], [], [(90, zWr (.inr (0, 1, .ofNat 5)))], (4, .ofNat 1, .ofNat 4) :: (26, .ofNat 1, .ofNat 31) :: zWB, zWF, 27)
def zXx84 : zS := ([], [], [], [], [], 2)
def zSx84 : zSm := (151, 4, zTx84, zXx84, zMx84)
def zn84_0 : zNd := (151, 0, zTx84, [], .ofNat 2244, [])
def zn84_1 : zNd := (151, 28, ([(0, (2, 89, .ofNat 0)), (1, (0, 26, .ofNat 0)), (2, (0, 27, .ofNat 0)), (3, (0, 28, .ofNat 0))], [], [(90, zWr (.inr (0, 1, .ofNat 5)))], (4, .ofNat 1, .ofNat 4) :: (26, .ofNat 1, .ofNat 31) :: (27, .ofNat 0, .ofNat 3) :: (28, .ofNat 0, .ofNat 16) :: zWB, zWF, 29), [], .ofNat 2242, [(.negSucc 131, 28)])
def zn84_2 : zNd := (151, 37, ([(0, (2, 89, .ofNat 0)), (1, (0, 26, .ofNat 0)), (2, (0, 27, .ofNat 0)), (3, (0, 28, .ofNat 0)), (4, (0, 29, .ofNat 0))], [], [(90, zWr (.inr (0, 1, .ofNat 5)))], (4, .ofNat 1, .ofNat 4) :: (26, .ofNat 1, .ofNat 31) :: (27, .ofNat 0, .ofNat 3) :: (28, .ofNat 0, .ofNat 15) :: (29, .ofNat 0, .ofNat 64) :: zWB, zWF, 30), [], .ofNat 2240, [(.negSucc 131, 28), (.negSucc 1, 29)])
def zNx84 : List zNd := [zn84_0, zn84_1, zn84_2]
def zEx84 : List zSm := [zSx61, zSx67, zSx68, zSx69]
theorem ze84 : ∀ q ∈ zEx84, SmOk LL q := List.forall_mem_cons.mpr ⟨zO61, List.forall_mem_cons.mpr ⟨zO67, List.forall_mem_cons.mpr ⟨zO68, List.forall_mem_cons.mpr ⟨zO69, fun _ h => absurd h List.not_mem_nil⟩⟩⟩⟩
def zYx84 : List (Nat × Nat) := [(151, 28), (151, 37)]
def zQx84 : List zSp := [(151, 0, 0, 1, 0, none)]
theorem zK84 : zcks LL TTl zMx84 zEx84 zYx84 zNx84 zXx84 zQx84 3 100000 zNx84 = true := by decide +kernel
theorem zO84 : SmOk LL zSx84 := sm_ok (D := 3) (fu := 100000) (SP := zQx84) (NP := zYx84) (ND := zNx84) LL_1 TTl_ok ze84 (zcks_ok zK84) (c := .ofNat 2244) rfl List.mem_cons_self
