/-! the checker on the methods, printed -/
/-- ones5 -/
def zMx125 : List Nat := []
def zTx125 : zS := ([(0, (0, 2, .ofNat 0))], [], [], [(0, .ofNat 0, .ofNat 160), (2, .ofNat 1, .ofNat 31)], [], 3)
def zXx125 : zS := ([], [(0, 2, .ofNat 0)], [], [(2, .ofNat 1, .ofNat 5)], [], 3)
def zSx125 : zSm := (98, 1, zTx125, zXx125, zMx125)
def zn125_0 : zNd := (98, 0, zTx125, [], .ofNat 0, [])
def zNx125 : List zNd := [zn125_0]
def zEx125 : List zSm := []
theorem ze125 : ∀ q ∈ zEx125, SmOk LL q := fun _ h => absurd h List.not_mem_nil
def zYx125 : List (Nat × Nat) := []
def zQx125 : List zSp := [(98, 0, 0, 0, 0, none)]
theorem zK125 : zcks LL TTl zMx125 zEx125 zYx125 zNx125 zXx125 zQx125 0 100000 zNx125 = true := by decide +kernel
theorem zO125 : SmOk LL zSx125 := sm_ok (D := 0) (fu := 100000) (SP := zQx125) (NP := zYx125) (ND := zNx125) LL_1 TTl_ok ze125 (zcks_ok zK125) (c := .ofNat 0) rfl List.mem_cons_self
