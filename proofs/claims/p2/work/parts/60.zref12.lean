/-! the checker on the methods, printed -/
/-- vetoes -/
def zMx110 : List Nat := [89, 90, 91]
def zTx110 : zS := ([(0, (2, 89, .ofNat 0)), (1, (0, 18, .ofNat 0))], [], [(90, zWr (.inr (0, 19, .ofNat 0)) (.inr (0, 20, .ofNat 0)))], (18, .negSucc 2147483647, .ofNat 2147483647) :: (19, .ofNat 0, .ofNat 6) :: (20, .ofNat 0, .ofNat 4) :: zWB, zWF, 21)
def zXx110 : zS := ([], [(0, 18, .ofNat 0)], [(90, zWr (.inr (0, 19, .ofNat 0)) (.inr (0, 20, .ofNat 0)))], (18, .negSucc 2, .ofNat 5) :: (19, .ofNat 0, .ofNat 6) :: (20, .ofNat 0, .ofNat 4) :: zWB, zWF, 21)
def zSx110 : zSm := (146, 3, zTx110, zXx110, zMx110)
def zn110_0 : zNd := (146, 0, zTx110, [], .ofNat 0, [])
def zNx110 : List zNd := [zn110_0]
def zEx110 : List zSm := [zSx79]
theorem ze110 : ∀ q ∈ zEx110, SmOk LL q := List.forall_mem_cons.mpr ⟨zO79, fun _ h => absurd h List.not_mem_nil⟩
def zYx110 : List (Nat × Nat) := []
def zQx110 : List zSp := [(101, 4, 1, 0, 0, none), (146, 71, 0, 2, 0, none)]
theorem zK110 : zcks LL TTl zMx110 zEx110 zYx110 zNx110 zXx110 zQx110 2 100000 zNx110 = true := by decide +kernel
theorem zO110 : SmOk LL zSx110 := sm_ok (D := 2) (fu := 100000) (SP := zQx110) (NP := zYx110) (ND := zNx110) LL_1 TTl_ok ze110 (zcks_ok zK110) (c := .ofNat 0) rfl List.mem_cons_self
