/-! the checker on the methods, printed -/
/-- ones6 -/
def zMx85 : List Nat := []
def zTx85 : zS := ([(0, (0, 2, .ofNat 0))], [], [], [(0, .ofNat 0, .ofNat 160), (2, .ofNat 1, .ofNat 63)], [], 3)
def zXx85 : zS := ([], [(0, 2, .ofNat 0)], [], [(2, .ofNat 1, .ofNat 6)], [], 3)
def zSx85 : zSm := (98, 1, zTx85, zXx85, zMx85)
def zn85_0 : zNd := (98, 0, zTx85, [], .ofNat 0, [])
def zNx85 : List zNd := [zn85_0]
def zEx85 : List zSm := []
theorem ze85 : ∀ q ∈ zEx85, SmOk LL q := fun _ h => absurd h List.not_mem_nil
def zYx85 : List (Nat × Nat) := []
def zQx85 : List zSp := [(98, 0, 0, 0, 0, none)]
theorem zK85 : zcks LL TTl zMx85 zEx85 zYx85 zNx85 zXx85 zQx85 0 100000 zNx85 = true := by decide +kernel
theorem zO85 : SmOk LL zSx85 := sm_ok (D := 0) (fu := 100000) (SP := zQx85) (NP := zYx85) (ND := zNx85) LL_1 TTl_ok ze85 (zcks_ok zK85) (c := .ofNat 0) rfl List.mem_cons_self
