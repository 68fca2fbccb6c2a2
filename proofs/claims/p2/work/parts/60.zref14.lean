/-! the checker on the methods, printed -/
/-- sincere -/
def zMx122 : List Nat := [91, 94, 95]
def zTx122 : zS := ([(0, (2, 89, .ofNat 0)), (1, (0, 26, .ofNat 0))], [], [(90, zWr (.inr (0, 27, .ofNat 0)))], (26, .negSucc 2147483647, .ofNat 2147483647) :: (27, .ofNat 0, .ofNat 6) :: zWB, zWF, 28)
def zXx122 : zS := ([], [(0, 2, .ofNat 0)], [], [(2, .negSucc 2147483647, .ofNat 2147483647)], [], 3)
def zSx122 : zSm := (161, 7, zTx122, zXx122, zMx122)
def zn122_0 : zNd := (161, 0, zTx122, [], .ofNat 0, [])
def zNx122 : List zNd := [zn122_0]
def zEx122 : List zSm := [zSx121]
theorem ze122 : ∀ q ∈ zEx122, SmOk LL q := List.forall_mem_cons.mpr ⟨zO121, fun _ h => absurd h List.not_mem_nil⟩
def zYx122 : List (Nat × Nat) := []
def zQx122 : List zSp := []
theorem zK122 : zcks LL TTl zMx122 zEx122 zYx122 zNx122 zXx122 zQx122 6 100000 zNx122 = true := by decide +kernel
theorem zO122 : SmOk LL zSx122 := sm_ok (D := 6) (fu := 100000) (SP := zQx122) (NP := zYx122) (ND := zNx122) LL_1 TTl_ok ze122 (zcks_ok zK122) (c := .ofNat 0) rfl List.mem_cons_self
