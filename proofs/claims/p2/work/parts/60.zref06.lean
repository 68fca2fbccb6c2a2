/-! the checker on the methods, printed -/
/-- rates -/
def zMx104 : List Nat := [89, 90, 91]
def zTx104 : zS := ([(0, (2, 89, .ofNat 0)), (1, (0, 18, .ofNat 0)), (2, (0, 19, .ofNat 0)), (3, (0, 20, .ofNat 0))], [], [(90, zWr (.inr (0, 21, .ofNat 0)) (.inr (0, 22, .ofNat 0)))], (18, .negSucc 2147483647, .ofNat 2147483647) :: (19, .negSucc 2147483647, .ofNat 2147483647) :: (20, .negSucc 2147483647, .ofNat 2147483647) :: (21, .ofNat 0, .ofNat 6) :: (22, .ofNat 0, .ofNat 4) :: zWB, zWF, 23)
def zXx104 : zS := ([], [(0, 18, .ofNat 0)], [(90, zWr (.inr (0, 19, .ofNat 0)) (.inr (0, 20, .ofNat 0)))], (18, .negSucc 2147483647, .ofNat 2147483647) :: (19, .ofNat 0, .ofNat 6) :: (20, .ofNat 0, .ofNat 4) :: zWB, zWF, 21)
def zSx104 : zSm := (136, 3, zTx104, zXx104, zMx104)
def zn104_0 : zNd := (136, 0, zTx104, [], .ofNat 0, [])
def zNx104 : List zNd := [zn104_0]
def zEx104 : List zSm := []
theorem ze104 : ∀ q ∈ zEx104, SmOk LL q := fun _ h => absurd h List.not_mem_nil
def zYx104 : List (Nat × Nat) := []
def zQx104 : List zSp := [(101, 4, 1, 0, 0, none)]
theorem zK104 : zcks LL TTl zMx104 zEx104 zYx104 zNx104 zXx104 zQx104 2 100000 zNx104 = true := by decide +kernel
theorem zO104 : SmOk LL zSx104 := sm_ok (D := 2) (fu := 100000) (SP := zQx104) (NP := zYx104) (ND := zNx104) LL_1 TTl_ok ze104 (zcks_ok zK104) (c := .ofNat 0) rfl List.mem_cons_self
