/-! the checker on the methods, printed -/
/-- rule -/
def zMx106 : List Nat := [89, 90, 91]
def zTx106 : zS := ([(0, (2, 89, .ofNat 0)), (1, (0, 18, .ofNat 0))], [], [(90, zWr (.inr (0, 19, .ofNat 0)) (.inr (0, 20, .ofNat 0)))], (18, .negSucc 2147483647, .ofNat 2147483647) :: (19, .ofNat 0, .ofNat 6) :: (20, .ofNat 0, .ofNat 4) :: zWB, zWF, 21)
def zXx106 : zS := ([], [(0, 18, .ofNat 0)], [(90, zWr (.inr (0, 19, .ofNat 0)) (.inr (0, 20, .ofNat 0)))], (18, .negSucc 2147483647, .ofNat 2147483647) :: (19, .ofNat 0, .ofNat 6) :: (20, .ofNat 0, .ofNat 4) :: zWB, zWF, 21)
def zSx106 : zSm := (138, 3, zTx106, zXx106, zMx106)
def zn106_0 : zNd := (138, 0, zTx106, [], .ofNat 0, [])
def zNx106 : List zNd := [zn106_0]
def zEx106 : List zSm := []
theorem ze106 : ∀ q ∈ zEx106, SmOk LL q := fun _ h => absurd h List.not_mem_nil
def zYx106 : List (Nat × Nat) := []
def zQx106 : List zSp := [(101, 4, 1, 0, 0, none)]
theorem zK106 : zcks LL TTl zMx106 zEx106 zYx106 zNx106 zXx106 zQx106 2 100000 zNx106 = true := by decide +kernel
theorem zO106 : SmOk LL zSx106 := sm_ok (D := 2) (fu := 100000) (SP := zQx106) (NP := zYx106) (ND := zNx106) LL_1 TTl_ok ze106 (zcks_ok zK106) (c := .ofNat 0) rfl List.mem_cons_self
