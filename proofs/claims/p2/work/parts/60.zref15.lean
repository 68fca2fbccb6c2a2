/-! the checker on the methods, printed -/
/-- sincere -/
def zMx117 : List Nat := [91, 94, 95]
def zTx117 : zS := ([(0, (2, 89, .ofNat 0)), (1, (0, 18, .ofNat 0))], [], [(90, zWr (.inr (0, 19, .ofNat 0)) (.inr (0, 20, .ofNat 0)))], (18, .negSucc 2147483647, .ofNat 2147483647) :: (19, .ofNat 0, .ofNat 6) :: (20, .ofNat 0, .ofNat 4) :: zWB, zWF, 21)
def zXx117 : zS := ([], [(0, 2, .ofNat 0)], [], [(2, .negSucc 2147483647, .ofNat 2147483647)], [], 3)
def zSx117 : zSm := (161, 7, zTx117, zXx117, zMx117)
def zn117_0 : zNd := (161, 0, zTx117, [], .ofNat 0, [])
def zNx117 : List zNd := [zn117_0]
def zEx117 : List zSm := [zSx116]
theorem ze117 : ∀ q ∈ zEx117, SmOk LL q := List.forall_mem_cons.mpr ⟨zO116, fun _ h => absurd h List.not_mem_nil⟩
def zYx117 : List (Nat × Nat) := []
def zQx117 : List zSp := []
theorem zK117 : zcks LL TTl zMx117 zEx117 zYx117 zNx117 zXx117 zQx117 6 100000 zNx117 = true := by decide +kernel
theorem zO117 : SmOk LL zSx117 := sm_ok (D := 6) (fu := 100000) (SP := zQx117) (NP := zYx117) (ND := zNx117) LL_1 TTl_ok ze117 (zcks_ok zK117) (c := .ofNat 0) rfl List.mem_cons_self
