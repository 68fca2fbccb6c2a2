/-! the checker on the methods, printed -/
/-- joins -/
def zMx113 : List Nat := [89, 90, 91]
def zTx113 : zS := ([(0, (2, 89, .ofNat 0)), (1, (0, 26, .ofNat 0)), (2, (0, 27, .ofNat 0))], [], [(90, zWr (.inr (0, 28, .ofNat 0)))], (26, .negSucc 2147483647, .ofNat 2147483647) :: (27, .negSucc 2147483647, .ofNat 2147483647) :: (28, .ofNat 0, .ofNat 6) :: zWB, zWF, 29)
def zXx113 : zS := ([], [(0, 26, .ofNat 0)], [(90, zWr (.inr (0, 27, .ofNat 0)))], (26, .negSucc 2, .ofNat 3) :: (27, .ofNat 0, .ofNat 6) :: zWB, zWF, 28)
def zSx113 : zSm := (141, 3, zTx113, zXx113, zMx113)
def zn113_0 : zNd := (141, 0, zTx113, [], .ofNat 78, [])
def zn113_1 : zNd := (141, 75, ([(0, (2, 89, .ofNat 0)), (1, (0, 26, .ofNat 0)), (2, (0, 27, .ofNat 0)), (3, (0, 28, .ofNat 0))], [], [(90, zWr (.inr (0, 29, .ofNat 0)))], (4, .ofNat 1, .ofNat 4) :: (26, .ofNat 0, .ofNat 3) :: (27, .ofNat 0, .ofNat 3) :: (28, .ofNat 0, .ofNat 6) :: (29, .ofNat 0, .ofNat 6) :: zWB, zWF, 30), [], .ofNat 76, [(.negSucc 1, 28)])
def zn113_2 : zNd := (141, 200, ([(0, (2, 89, .ofNat 0)), (1, (0, 26, .ofNat 0)), (2, (0, 27, .ofNat 0)), (3, (0, 28, .ofNat 0)), (4, (0, 29, .ofNat 0))], [], [(90, zWr (.inr (0, 30, .ofNat 0)))], (4, .ofNat 0, .ofNat 3) :: (26, .ofNat 0, .ofNat 3) :: (27, .ofNat 0, .ofNat 3) :: (28, .ofNat 0, .ofNat 15) :: (29, .ofNat 0, .ofNat 3) :: (30, .ofNat 0, .ofNat 6) :: zWB, zWG, 31), [], .ofNat 62, [(.negSucc 15, 29)])
def zn113_3 : zNd := (141, 236, ([(0, (2, 89, .ofNat 0)), (1, (0, 26, .ofNat 0)), (2, (0, 27, .ofNat 0)), (3, (0, 28, .ofNat 0)), (4, (0, 29, .ofNat 0)), (5, (0, 30, .ofNat 0))], [], [(90, zWr (.inr (0, 31, .ofNat 0)))], (4, .ofNat 1, .ofNat 3) :: (26, .ofNat 0, .ofNat 3) :: (27, .ofNat 0, .ofNat 3) :: (28, .ofNat 0, .ofNat 15) :: (29, .ofNat 0, .ofNat 2) :: (30, .ofNat 0, .ofNat 6) :: (31, .ofNat 0, .ofNat 6) :: zWB, zWG, 32), [], .ofNat 60, [(.negSucc 15, 29), (.negSucc 1, 30)])
def zNx113 : List zNd := [zn113_0, zn113_1, zn113_2, zn113_3]
def zEx113 : List zSm := [zSx107]
theorem ze113 : ∀ q ∈ zEx113, SmOk LL q := List.forall_mem_cons.mpr ⟨zO107, fun _ h => absurd h List.not_mem_nil⟩
def zYx113 : List (Nat × Nat) := [(141, 75), (141, 200), (141, 236)]
def zQx113 : List zSp := [(141, 135, 0, 2, 0, none), (141, 156, 0, 1, 0, none), (141, 165, 0, 3, 0, none)]
theorem zK113_0 : zcks LL TTl zMx113 zEx113 zYx113 zNx113 zXx113 zQx113 2 100000 [zn113_0] = true := by decide +kernel
theorem zK113_1 : zcks LL TTl zMx113 zEx113 zYx113 zNx113 zXx113 zQx113 2 100000 [zn113_1] = true := by decide +kernel
theorem zK113_2 : zcks LL TTl zMx113 zEx113 zYx113 zNx113 zXx113 zQx113 2 100000 [zn113_2, zn113_3] = true := by decide +kernel
theorem zk113 : ∀ nd ∈ zNx113, zck LL TTl zMx113 zEx113 zYx113 zNx113 zXx113 zQx113 2 100000 nd = true := zck2 (zcks_ok zK113_0) (zck2 (zcks_ok zK113_1) (zcks_ok zK113_2))
theorem zO113 : SmOk LL zSx113 := sm_ok (D := 2) (fu := 100000) (SP := zQx113) (NP := zYx113) (ND := zNx113) LL_1 TTl_ok ze113 zk113 (c := .ofNat 78) rfl List.mem_cons_self
/-- takes -/
def zMx114 : List Nat := [89, 90, 91, 94, 95]
def zTx114 : zS := ([(0, (2, 89, .ofNat 0)), (1, (0, 26, .ofNat 0))], [], [(90, zWr (.inr (0, 27, .ofNat 0)))], (26, .negSucc 2147483647, .ofNat 2147483647) :: (27, .ofNat 0, .ofNat 6) :: zWB, zWF, 28)
def zXx114 : zS := ([], [(0, 26, .ofNat 0)], [(90, zWr (.inr (0, 27, .ofNat 0)))], (26, .negSucc 2, .ofNat 3) :: (27, .ofNat 0, .ofNat 6) :: zWB, zWF, 28)
def zSx114 : zSm := (144, 6, zTx114, zXx114, zMx114)
def zn114_0 : zNd := (144, 0, zTx114, [], .ofNat 0, [])
def zNx114 : List zNd := [zn114_0]
def zEx114 : List zSm := [zSx64, zSx79, zSx105]
theorem ze114 : ∀ q ∈ zEx114, SmOk LL q := List.forall_mem_cons.mpr ⟨zO64, List.forall_mem_cons.mpr ⟨zO79, List.forall_mem_cons.mpr ⟨zO105, fun _ h => absurd h List.not_mem_nil⟩⟩⟩
def zYx114 : List (Nat × Nat) := []
def zQx114 : List zSp := []
theorem zK114 : zcks LL TTl zMx114 zEx114 zYx114 zNx114 zXx114 zQx114 5 100000 zNx114 = true := by decide +kernel
theorem zO114 : SmOk LL zSx114 := sm_ok (D := 5) (fu := 100000) (SP := zQx114) (NP := zYx114) (ND := zNx114) LL_1 TTl_ok ze114 (zcks_ok zK114) (c := .ofNat 0) rfl List.mem_cons_self
/-- vetoes -/
def zMx115 : List Nat := [89, 90, 91]
def zTx115 : zS := ([(0, (2, 89, .ofNat 0)), (1, (0, 26, .ofNat 0))], [], [(90, zWr (.inr (0, 27, .ofNat 0)))], (26, .negSucc 2147483647, .ofNat 2147483647) :: (27, .ofNat 0, .ofNat 6) :: zWB, zWF, 28)
def zXx115 : zS := ([], [(0, 26, .ofNat 0)], [(90, zWr (.inr (0, 27, .ofNat 0)))], (26, .negSucc 2, .ofNat 5) :: (27, .ofNat 0, .ofNat 6) :: zWB, zWF, 28)
def zSx115 : zSm := (146, 3, zTx115, zXx115, zMx115)
def zn115_0 : zNd := (146, 0, zTx115, [], .ofNat 0, [])
def zNx115 : List zNd := [zn115_0]
def zEx115 : List zSm := [zSx79, zSx104]
theorem ze115 : ∀ q ∈ zEx115, SmOk LL q := List.forall_mem_cons.mpr ⟨zO79, List.forall_mem_cons.mpr ⟨zO104, fun _ h => absurd h List.not_mem_nil⟩⟩
def zYx115 : List (Nat × Nat) := []
def zQx115 : List zSp := [(146, 71, 0, 2, 0, none)]
theorem zK115 : zcks LL TTl zMx115 zEx115 zYx115 zNx115 zXx115 zQx115 2 100000 zNx115 = true := by decide +kernel
theorem zO115 : SmOk LL zSx115 := sm_ok (D := 2) (fu := 100000) (SP := zQx115) (NP := zYx115) (ND := zNx115) LL_1 TTl_ok ze115 (zcks_ok zK115) (c := .ofNat 0) rfl List.mem_cons_self
/-- against -/
def zMx116 : List Nat := [89, 91, 94, 95, 96, 97, 98, 99]
def zTx116 : zS := ([(0, (2, 89, .ofNat 0)), (1, (0, 26, .ofNat 0))], [], [(90, zWr (.inr (0, 27, .ofNat 0)))], (26, .negSucc 2147483647, .ofNat 2147483647) :: (27, .ofNat 0, .ofNat 6) :: zWB, zWF, 28)
def zXx116 : zS := ([], [(0, 2, .ofNat 0)], [], [(2, .negSucc 2, .ofNat 3)], [], 3)
def zSx116 : zSm := (158, 7, zTx116, zXx116, zMx116)
def zn116_0 : zNd := (158, 0, zTx116, [], .ofNat 0, [])
def zNx116 : List zNd := [zn116_0]
def zEx116 : List zSm := [zSx57, zSx58, zSx59, zSx60, zSx61, zSx62, zSx63, zSx68, zSx73, zSx74, zSx75, zSx76, zSx77, zSx78, zSx87, zSx88, zSx89, zSx90, zSx91, zSx92]
theorem ze116 : ∀ q ∈ zEx116, SmOk LL q := List.forall_mem_cons.mpr ⟨zO57, List.forall_mem_cons.mpr ⟨zO58, List.forall_mem_cons.mpr ⟨zO59, List.forall_mem_cons.mpr ⟨zO60, List.forall_mem_cons.mpr ⟨zO61, List.forall_mem_cons.mpr ⟨zO62, List.forall_mem_cons.mpr ⟨zO63, List.forall_mem_cons.mpr ⟨zO68, List.forall_mem_cons.mpr ⟨zO73, List.forall_mem_cons.mpr ⟨zO74, List.forall_mem_cons.mpr ⟨zO75, List.forall_mem_cons.mpr ⟨zO76, List.forall_mem_cons.mpr ⟨zO77, List.forall_mem_cons.mpr ⟨zO78, List.forall_mem_cons.mpr ⟨zO87, List.forall_mem_cons.mpr ⟨zO88, List.forall_mem_cons.mpr ⟨zO89, List.forall_mem_cons.mpr ⟨zO90, List.forall_mem_cons.mpr ⟨zO91, List.forall_mem_cons.mpr ⟨zO92, fun _ h => absurd h List.not_mem_nil⟩⟩⟩⟩⟩⟩⟩⟩⟩⟩⟩⟩⟩⟩⟩⟩⟩⟩⟩⟩
def zYx116 : List (Nat × Nat) := []
def zQx116 : List zSp := [(158, 0, 2, 90, 0, none), (158, 0, 2, 90, 1, some (.ofNat 0))]
theorem zK116 : zcks LL TTl zMx116 zEx116 zYx116 zNx116 zXx116 zQx116 6 100000 zNx116 = true := by decide +kernel
theorem zO116 : SmOk LL zSx116 := sm_ok (D := 6) (fu := 100000) (SP := zQx116) (NP := zYx116) (ND := zNx116) LL_1 TTl_ok ze116 (zcks_ok zK116) (c := .ofNat 0) rfl List.mem_cons_self
