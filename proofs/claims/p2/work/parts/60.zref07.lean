/-! the checker on the methods, printed -/
/-- strength -/
def zMx105 : List Nat := [89, 90, 91]
def zTx105 : zS := ([(0, (2, 89, .ofNat 0)), (1, (0, 18, .ofNat 0)), (2, (0, 19, .ofNat 0))], [], [(90, zWr (.inr (0, 20, .ofNat 0)) (.inr (0, 21, .ofNat 0)))], (18, .negSucc 2147483647, .ofNat 2147483647) :: (19, .negSucc 2147483647, .ofNat 2147483647) :: (20, .ofNat 0, .ofNat 6) :: (21, .ofNat 0, .ofNat 4) :: zWB, zWF, 22)
def zXx105 : zS := ([], [(0, 18, .ofNat 0)], [(90, zWr (.inr (0, 19, .ofNat 0)) (.inr (0, 20, .ofNat 0)))], (18, .negSucc 2147483647, .ofNat 2147483647) :: (19, .ofNat 0, .ofNat 6) :: (20, .ofNat 0, .ofNat 4) :: zWB, zWF, 21)
def zSx105 : zSm := (137, 3, zTx105, zXx105, zMx105)
def zn105_0 : zNd := (137, 0, zTx105, [], .ofNat 0, [])
def zNx105 : List zNd := [zn105_0]
def zEx105 : List zSm := []
theorem ze105 : ∀ q ∈ zEx105, SmOk LL q := fun _ h => absurd h List.not_mem_nil
def zYx105 : List (Nat × Nat) := []
def zQx105 : List zSp := [(101, 4, 1, 0, 0, none)]
theorem zK105 : zcks LL TTl zMx105 zEx105 zYx105 zNx105 zXx105 zQx105 2 100000 zNx105 = true := by decide +kernel
theorem zO105 : SmOk LL zSx105 := sm_ok (D := 2) (fu := 100000) (SP := zQx105) (NP := zYx105) (ND := zNx105) LL_1 TTl_ok ze105 (zcks_ok zK105) (c := .ofNat 0) rfl List.mem_cons_self
