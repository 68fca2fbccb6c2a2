/-! the checker on the methods, printed -/
/-- ones6 -/
def zMx126 : List Nat := []
def zTx126 : zS := ([(0, (0, 2, .ofNat 0))], [], [], [(0, .ofNat 0, .ofNat 160), (2, .ofNat 1, .ofNat 63)], [], 3)
def zXx126 : zS := ([], [(0, 2, .ofNat 0)], [], [(2, .ofNat 1, .ofNat 6)], [], 3)
def zSx126 : zSm := (98, 1, zTx126, zXx126, zMx126)
def zn126_0 : zNd := (98, 0, zTx126, [], .ofNat 0, [])
def zNx126 : List zNd := [zn126_0]
def zEx126 : List zSm := []
theorem ze126 : ∀ q ∈ zEx126, SmOk LL q := fun _ h => absurd h List.not_mem_nil
def zYx126 : List (Nat × Nat) := []
def zQx126 : List zSp := [(98, 0, 0, 0, 0, none)]
theorem zK126 : zcks LL TTl zMx126 zEx126 zYx126 zNx126 zXx126 zQx126 0 100000 zNx126 = true := by decide +kernel
theorem zO126 : SmOk LL zSx126 := sm_ok (D := 0) (fu := 100000) (SP := zQx126) (NP := zYx126) (ND := zNx126) LL_1 TTl_ok ze126 (zcks_ok zK126) (c := .ofNat 0) rfl List.mem_cons_self
