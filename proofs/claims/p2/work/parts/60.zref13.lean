/-! the checker on the methods, printed -/
/-- against -/
def zMx111 : List Nat := [89, 91, 94, 95, 96, 97, 98, 99]
def zTx111 : zS := ([(0, (2, 89, .ofNat 0)), (1, (0, 18, .ofNat 0))], [], [(90, zWr (.inr (0, 19, .ofNat 0)) (.inr (0, 20, .ofNat 0)))], (18, .negSucc 2147483647, .ofNat 2147483647) :: (19, .ofNat 0, .ofNat 6) :: (20, .ofNat 0, .ofNat 4) :: zWB, zWF, 21)
def zXx111 : zS := ([], [(0, 2, .ofNat 0)], [], [(2, .negSucc 2, .ofNat 3)], [], 3)
def zSx111 : zSm := (158, 7, zTx111, zXx111, zMx111)
def zn111_0 : zNd := (158, 0, zTx111, [], .ofNat 0, [])
def zNx111 : List zNd := [zn111_0]
def zEx111 : List zSm := [zSx57, zSx58, zSx59, zSx60, zSx61, zSx62, zSx63, zSx68, zSx73, zSx74, zSx75, zSx76, zSx77, zSx78, zSx87, zSx88, zSx89, zSx90, zSx91, zSx92]
theorem ze111 : ∀ q ∈ zEx111, SmOk LL q := List.forall_mem_cons.mpr ⟨zO57, List.forall_mem_cons.mpr ⟨zO58, List.forall_mem_cons.mpr ⟨zO59, List.forall_mem_cons.mpr ⟨zO60, List.forall_mem_cons.mpr ⟨zO61, List.forall_mem_cons.mpr ⟨zO62, List.forall_mem_cons.mpr ⟨zO63, List.forall_mem_cons.mpr ⟨zO68, List.forall_mem_cons.mpr ⟨zO73, List.forall_mem_cons.mpr ⟨zO74, List.forall_mem_cons.mpr ⟨zO75, List.forall_mem_cons.mpr ⟨zO76, List.forall_mem_cons.mpr ⟨zO77, List.forall_mem_cons.mpr ⟨zO78, List.forall_mem_cons.mpr ⟨zO87, List.forall_mem_cons.mpr ⟨zO88, List.forall_mem_cons.mpr ⟨zO89, List.forall_mem_cons.mpr ⟨zO90, List.forall_mem_cons.mpr ⟨zO91, List.forall_mem_cons.mpr ⟨zO92, fun _ h => absurd h List.not_mem_nil⟩⟩⟩⟩⟩⟩⟩⟩⟩⟩⟩⟩⟩⟩⟩⟩⟩⟩⟩⟩
def zYx111 : List (Nat × Nat) := []
def zQx111 : List zSp := [(158, 0, 2, 90, 0, none), (158, 0, 2, 90, 1, some (.ofNat 0))]
theorem zK111 : zcks LL TTl zMx111 zEx111 zYx111 zNx111 zXx111 zQx111 6 100000 zNx111 = true := by decide +kernel
theorem zO111 : SmOk LL zSx111 := sm_ok (D := 6) (fu := 100000) (SP := zQx111) (NP := zYx111) (ND := zNx111) LL_1 TTl_ok ze111 (zcks_ok zK111) (c := .ofNat 0) rfl List.mem_cons_self
/-- taking -/
def zMx112 : List Nat := [89, 91, 94, 95, 96, 97, 98, 99]
def zTx112 : zS := ([(0, (2, 89, .ofNat 0)), (1, (0, 18, .ofNat 0)), (2, (0, 19, .ofNat 0))], [], [(90, zWr (.inr (0, 20, .ofNat 0)) (.inr (0, 21, .ofNat 0)))], (18, .negSucc 2147483647, .ofNat 2147483647) :: (19, .negSucc 2147483647, .ofNat 2147483647) :: (20, .ofNat 0, .ofNat 6) :: (21, .ofNat 0, .ofNat 4) :: zWB, zWF, 22)
def zXx112 : zS := ([], [(0, 2, .ofNat 0)], [], [(2, .negSucc 2147483647, .ofNat 2147483647)], [], 3)
def zSx112 : zSm := (159, 7, zTx112, zXx112, zMx112)
def zn112_0 : zNd := (159, 0, zTx112, [], .ofNat 0, [])
def zNx112 : List zNd := [zn112_0]
def zEx112 : List zSm := [zSx57, zSx58, zSx59, zSx60, zSx61, zSx62, zSx65, zSx68, zSx73, zSx74, zSx75, zSx76, zSx77, zSx78, zSx87, zSx88, zSx89, zSx90, zSx91, zSx92]
theorem ze112 : ∀ q ∈ zEx112, SmOk LL q := List.forall_mem_cons.mpr ⟨zO57, List.forall_mem_cons.mpr ⟨zO58, List.forall_mem_cons.mpr ⟨zO59, List.forall_mem_cons.mpr ⟨zO60, List.forall_mem_cons.mpr ⟨zO61, List.forall_mem_cons.mpr ⟨zO62, List.forall_mem_cons.mpr ⟨zO65, List.forall_mem_cons.mpr ⟨zO68, List.forall_mem_cons.mpr ⟨zO73, List.forall_mem_cons.mpr ⟨zO74, List.forall_mem_cons.mpr ⟨zO75, List.forall_mem_cons.mpr ⟨zO76, List.forall_mem_cons.mpr ⟨zO77, List.forall_mem_cons.mpr ⟨zO78, List.forall_mem_cons.mpr ⟨zO87, List.forall_mem_cons.mpr ⟨zO88, List.forall_mem_cons.mpr ⟨zO89, List.forall_mem_cons.mpr ⟨zO90, List.forall_mem_cons.mpr ⟨zO91, List.forall_mem_cons.mpr ⟨zO92, fun _ h => absurd h List.not_mem_nil⟩⟩⟩⟩⟩⟩⟩⟩⟩⟩⟩⟩⟩⟩⟩⟩⟩⟩⟩⟩
def zYx112 : List (Nat × Nat) := []
def zQx112 : List zSp := [(159, 0, 2, 90, 0, none), (159, 0, 2, 90, 1, some (.ofNat 0))]
theorem zK112 : zcks LL TTl zMx112 zEx112 zYx112 zNx112 zXx112 zQx112 6 100000 zNx112 = true := by decide +kernel
theorem zO112 : SmOk LL zSx112 := sm_ok (D := 6) (fu := 100000) (SP := zQx112) (NP := zYx112) (ND := zNx112) LL_1 TTl_ok ze112 (zcks_ok zK112) (c := .ofNat 0) rfl List.mem_cons_self
/-- back -/
def zMx113 : List Nat := [89, 90, 91]
def zTx113 : zS := ([(0, (2, 89, .ofNat 0))], [], [(90, zWr (.inr (0, 18, .ofNat 0)) (.inr (0, 19, .ofNat 0)))], (18, .ofNat 0, .ofNat 6) :: (19, .ofNat 0, .ofNat 4) :: zWB, zWF, 20)
def zXx113 : zS := ([], [(0, 18, .ofNat 0)], [(90, zWr (.inr (0, 19, .ofNat 0)) (.inr (0, 20, .ofNat 0)))], (18, .negSucc 2, .ofNat 5) :: (19, .ofNat 0, .ofNat 6) :: (20, .ofNat 0, .ofNat 4) :: zWB, zWF, 21)
def zSx113 : zSm := (164, 2, zTx113, zXx113, zMx113)
def zn113_0 : zNd := (164, 0, zTx113, [], .ofNat 0, [])
def zNx113 : List zNd := [zn113_0]
def zEx113 : List zSm := []
theorem ze113 : ∀ q ∈ zEx113, SmOk LL q := fun _ h => absurd h List.not_mem_nil
def zYx113 : List (Nat × Nat) := []
def zQx113 : List zSp := [(164, 4, 1, 0, 0, none)]
theorem zK113 : zcks LL TTl zMx113 zEx113 zYx113 zNx113 zXx113 zQx113 1 100000 zNx113 = true := by decide +kernel
theorem zO113 : SmOk LL zSx113 := sm_ok (D := 1) (fu := 100000) (SP := zQx113) (NP := zYx113) (ND := zNx113) LL_1 TTl_ok ze113 (zcks_ok zK113) (c := .ofNat 0) rfl List.mem_cons_self
/-- told -/
def zMx114 : List Nat := [91]
def zTx114 : zS := ([(0, (2, 89, .ofNat 0)), (1, (0, 18, .ofNat 0))], [], [(90, zWr (.inr (0, 19, .ofNat 0)) (.inr (0, 20, .ofNat 0)))], (18, .negSucc 2147483647, .ofNat 2147483647) :: (19, .ofNat 0, .ofNat 6) :: (20, .ofNat 0, .ofNat 4) :: zWB, zWF, 21)
def zXx114 : zS := ([], [(0, 2, .ofNat 0)], [], [(2, .negSucc 2147483647, .ofNat 2147483647)], [], 3)
def zSx114 : zSm := (166, 3, zTx114, zXx114, zMx114)
def zn114_0 : zNd := (166, 0, zTx114, [], .ofNat 0, [])
def zNx114 : List zNd := [zn114_0]
def zEx114 : List zSm := []
theorem ze114 : ∀ q ∈ zEx114, SmOk LL q := fun _ h => absurd h List.not_mem_nil
def zYx114 : List (Nat × Nat) := []
def zQx114 : List zSp := []
theorem zK114 : zcks LL TTl zMx114 zEx114 zYx114 zNx114 zXx114 zQx114 2 100000 zNx114 = true := by decide +kernel
theorem zO114 : SmOk LL zSx114 := sm_ok (D := 2) (fu := 100000) (SP := zQx114) (NP := zYx114) (ND := zNx114) LL_1 TTl_ok ze114 (zcks_ok zK114) (c := .ofNat 0) rfl List.mem_cons_self
/-- laysEndsZ -/
def zMx115 : List Nat := [89, 94, 95, 96, 97, 98, 99]
def zTx115 : zS := ([(1, (0, 1, .ofNat 0)), (0, (2, 89, .ofNat 0))], [], [(90, zWr (.inr (0, 18, .ofNat 0)) (.inr (0, 19, .ofNat 0)))], (18, .ofNat 0, .ofNat 6) :: (19, .ofNat 0, .ofNat 4) :: zWB, zWF, 20)
def zXx115 : zS := ([], [], [], [], [], 2)
def zSx115 : zSm := (152, 1, zTx115, zXx115, zMx115)
def zn115_0 : zNd := (152, 0, zTx115, [], .ofNat 131, [])
def zn115_1 : zNd := (152, 2, ([(1, (0, 1, .ofNat 0)), (0, (2, 89, .ofNat 0)), (2, (0, 18, .ofNat 0))], [], [(90, zWr (.inr (0, 19, .ofNat 0)) (.inr (0, 20, .ofNat 0)))], (18, .ofNat 0, .ofNat 64) :: (19, .ofNat 0, .ofNat 6) :: (20, .ofNat 0, .ofNat 4) :: zWB, zWF, 21), [], .ofNat 129, [(.negSucc 1, 18)])
def zn115_2 : zNd := (152, 23, ([(1, (0, 1, .ofNat 0)), (2, (0, 1, .ofNat 1)), (0, (2, 89, .ofNat 0))], [], [(90, zWr (.inr (0, 18, .ofNat 0)) (.inr (0, 19, .ofNat 0)))], (18, .ofNat 0, .ofNat 6) :: (19, .ofNat 0, .ofNat 4) :: zWB, zWF, 20), [], .ofNat 0, [])
def zNx115 : List zNd := [zn115_0, zn115_1, zn115_2]
def zEx115 : List zSm := []
theorem ze115 : ∀ q ∈ zEx115, SmOk LL q := fun _ h => absurd h List.not_mem_nil
def zYx115 : List (Nat × Nat) := [(152, 2), (152, 23)]
def zQx115 : List zSp := []
theorem zK115 : zcks LL TTl zMx115 zEx115 zYx115 zNx115 zXx115 zQx115 0 100000 zNx115 = true := by decide +kernel
theorem zO115 : SmOk LL zSx115 := sm_ok (D := 0) (fu := 100000) (SP := zQx115) (NP := zYx115) (ND := zNx115) LL_1 TTl_ok ze115 (zcks_ok zK115) (c := .ofNat 131) rfl List.mem_cons_self
