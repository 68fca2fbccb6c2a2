/-! the checker on the methods, printed -/
/-- takes -/
def zMx109 : List Nat := [89, 90, 91, 94, 95]
def zTx109 : zS := ([(0, (2, 89, .ofNat 0)), (1, (0, 18, .ofNat 0))], [], [(90, zWr (.inr (0, 19, .ofNat 0)) (.inr (0, 20, .ofNat 0)))], (18, .negSucc 2147483647, .ofNat 2147483647) :: (19, .ofNat 0, .ofNat 6) :: (20, .ofNat 0, .ofNat 4) :: zWB, zWF, 21)
def zXx109 : zS := ([], [(0, 18, .ofNat 0)], [(90, zWr (.inr (0, 19, .ofNat 0)) (.inr (0, 20, .ofNat 0)))], (18, .negSucc 2, .ofNat 3) :: (19, .ofNat 0, .ofNat 6) :: (20, .ofNat 0, .ofNat 4) :: zWB, zWF, 21)
def zSx109 : zSm := (144, 6, zTx109, zXx109, zMx109)
def zn109_0 : zNd := (144, 0, zTx109, [], .ofNat 0, [])
def zNx109 : List zNd := [zn109_0]
def zEx109 : List zSm := [zSx64, zSx79]
theorem ze109 : ∀ q ∈ zEx109, SmOk LL q := List.forall_mem_cons.mpr ⟨zO64, List.forall_mem_cons.mpr ⟨zO79, fun _ h => absurd h List.not_mem_nil⟩⟩
def zYx109 : List (Nat × Nat) := []
def zQx109 : List zSp := [(101, 4, 1, 0, 0, none)]
theorem zK109 : zcks LL TTl zMx109 zEx109 zYx109 zNx109 zXx109 zQx109 5 100000 zNx109 = true := by decide +kernel
theorem zO109 : SmOk LL zSx109 := sm_ok (D := 5) (fu := 100000) (SP := zQx109) (NP := zYx109) (ND := zNx109) LL_1 TTl_ok ze109 (zcks_ok zK109) (c := .ofNat 0) rfl List.mem_cons_self
