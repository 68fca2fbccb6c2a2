/-! the checker on the methods, printed -/
/-- ones5 -/
def zMx84 : List Nat := []
def zTx84 : zS := ([(0, (0, 2, .ofNat 0))], [], [], [(0, .ofNat 0, .ofNat 160), (2, .ofNat 1, .ofNat 31)], [], 3)
def zXx84 : zS := ([], [(0, 2, .ofNat 0)], [], [(2, .ofNat 1, .ofNat 5)], [], 3)
def zSx84 : zSm := (98, 1, zTx84, zXx84, zMx84)
def zn84_0 : zNd := (98, 0, zTx84, [], .ofNat 0, [])
def zNx84 : List zNd := [zn84_0]
def zEx84 : List zSm := []
theorem ze84 : ∀ q ∈ zEx84, SmOk LL q := fun _ h => absurd h List.not_mem_nil
def zYx84 : List (Nat × Nat) := []
def zQx84 : List zSp := [(98, 0, 0, 0, 0, none)]
theorem zK84 : zcks LL TTl zMx84 zEx84 zYx84 zNx84 zXx84 zQx84 0 100000 zNx84 = true := by decide +kernel
theorem zO84 : SmOk LL zSx84 := sm_ok (D := 0) (fu := 100000) (SP := zQx84) (NP := zYx84) (ND := zNx84) LL_1 TTl_ok ze84 (zcks_ok zK84) (c := .ofNat 0) rfl List.mem_cons_self
