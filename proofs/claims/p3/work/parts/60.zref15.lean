/-! the checker on the methods, printed -/
/-- onesV -/
def zMx127 : List Nat := []
def zTx127 : zS := ([(0, (0, 2, .ofNat 0))], [], [], [(0, .ofNat 0, .ofNat 160), (2, .ofNat 0, .ofNat 15)], [], 3)
def zXx127 : zS := ([], [(0, 2, .ofNat 0)], [], [(2, .ofNat 0, .ofNat 4)], [], 3)
def zSx127 : zSm := (98, 1, zTx127, zXx127, zMx127)
def zn127_0 : zNd := (98, 0, zTx127, [], .ofNat 0, [])
def zNx127 : List zNd := [zn127_0]
def zEx127 : List zSm := []
theorem ze127 : ∀ q ∈ zEx127, SmOk LL q := fun _ h => absurd h List.not_mem_nil
def zYx127 : List (Nat × Nat) := []
def zQx127 : List zSp := [(98, 0, 0, 0, 0, none)]
theorem zK127 : zcks LL TTl zMx127 zEx127 zYx127 zNx127 zXx127 zQx127 0 100000 zNx127 = true := by decide +kernel
theorem zO127 : SmOk LL zSx127 := sm_ok (D := 0) (fu := 100000) (SP := zQx127) (NP := zYx127) (ND := zNx127) LL_1 TTl_ok ze127 (zcks_ok zK127) (c := .ofNat 0) rfl List.mem_cons_self
