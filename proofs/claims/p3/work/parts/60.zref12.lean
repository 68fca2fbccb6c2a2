/-! the checker on the methods, printed -/
/-- taking -/
def zMx117 : List Nat := [89, 91, 94, 95, 96, 97, 98, 99]
def zTx117 : zS := ([(0, (2, 89, .ofNat 0)), (1, (0, 26, .ofNat 0)), (2, (0, 27, .ofNat 0))], [], [(90, zWr (.inr (0, 28, .ofNat 0)))], (26, .negSucc 2147483647, .ofNat 2147483647) :: (27, .negSucc 2147483647, .ofNat 2147483647) :: (28, .ofNat 0, .ofNat 6) :: zWB, zWF, 29)
def zXx117 : zS := ([], [(0, 2, .ofNat 0)], [], [(2, .negSucc 2147483647, .ofNat 2147483647)], [], 3)
def zSx117 : zSm := (159, 7, zTx117, zXx117, zMx117)
def zn117_0 : zNd := (159, 0, zTx117, [], .ofNat 0, [])
def zNx117 : List zNd := [zn117_0]
def zEx117 : List zSm := [zSx57, zSx58, zSx59, zSx60, zSx61, zSx62, zSx65, zSx68, zSx73, zSx74, zSx75, zSx76, zSx77, zSx78, zSx87, zSx88, zSx89, zSx90, zSx91, zSx92]
theorem ze117 : ∀ q ∈ zEx117, SmOk LL q := List.forall_mem_cons.mpr ⟨zO57, List.forall_mem_cons.mpr ⟨zO58, List.forall_mem_cons.mpr ⟨zO59, List.forall_mem_cons.mpr ⟨zO60, List.forall_mem_cons.mpr ⟨zO61, List.forall_mem_cons.mpr ⟨zO62, List.forall_mem_cons.mpr ⟨zO65, List.forall_mem_cons.mpr ⟨zO68, List.forall_mem_cons.mpr ⟨zO73, List.forall_mem_cons.mpr ⟨zO74, List.forall_mem_cons.mpr ⟨zO75, List.forall_mem_cons.mpr ⟨zO76, List.forall_mem_cons.mpr ⟨zO77, List.forall_mem_cons.mpr ⟨zO78, List.forall_mem_cons.mpr ⟨zO87, List.forall_mem_cons.mpr ⟨zO88, List.forall_mem_cons.mpr ⟨zO89, List.forall_mem_cons.mpr ⟨zO90, List.forall_mem_cons.mpr ⟨zO91, List.forall_mem_cons.mpr ⟨zO92, fun _ h => absurd h List.not_mem_nil⟩⟩⟩⟩⟩⟩⟩⟩⟩⟩⟩⟩⟩⟩⟩⟩⟩⟩⟩⟩
def zYx117 : List (Nat × Nat) := []
def zQx117 : List zSp := [(159, 0, 2, 90, 0, none), (159, 0, 2, 90, 1, some (.ofNat 0))]
theorem zK117 : zcks LL TTl zMx117 zEx117 zYx117 zNx117 zXx117 zQx117 6 100000 zNx117 = true := by decide +kernel
theorem zO117 : SmOk LL zSx117 := sm_ok (D := 6) (fu := 100000) (SP := zQx117) (NP := zYx117) (ND := zNx117) LL_1 TTl_ok ze117 (zcks_ok zK117) (c := .ofNat 0) rfl List.mem_cons_self
/-- back -/
def zMx118 : List Nat := [89, 90, 91]
def zTx118 : zS := ([(0, (2, 89, .ofNat 0))], [], [(90, zWr (.inr (0, 26, .ofNat 0)))], (26, .ofNat 0, .ofNat 6) :: zWB, zWF, 27)
def zXx118 : zS := ([], [(0, 26, .ofNat 0)], [(90, zWr (.inr (0, 27, .ofNat 0)))], (26, .negSucc 2, .ofNat 6) :: (27, .ofNat 0, .ofNat 6) :: zWB, zWF, 28)
def zSx118 : zSm := (164, 2, zTx118, zXx118, zMx118)
def zn118_0 : zNd := (164, 0, zTx118, [], .ofNat 12, [])
def zn118_1 : zNd := (100, 2, ([(1, (0, 1, .ofNat 330)), (2, (0, 1, .ofNat 0)), (3, (0, 1, .ofNat 0)), (0, (2, 89, .ofNat 0))], [], [(90, zWr (.inr (0, 26, .ofNat 0)))], (26, .ofNat 0, .ofNat 6) :: zWB, zWF, 27), [(164, 39, [(0, (2, 89, .ofNat 0))], [])], .ofNat 1, [])
def zn118_2 : zNd := (100, 2, ([(1, (0, 1, .ofNat 275)), (2, (0, 1, .ofNat 0)), (3, (0, 1, .ofNat 0)), (0, (2, 89, .ofNat 0))], [], [(90, zWr (.inr (0, 26, .ofNat 0)))], (26, .ofNat 0, .ofNat 6) :: zWB, zWF, 27), [(164, 39, [(0, (2, 89, .ofNat 0))], [])], .ofNat 3, [])
def zn118_3 : zNd := (100, 2, ([(1, (0, 1, .ofNat 220)), (2, (0, 1, .ofNat 0)), (3, (0, 1, .ofNat 0)), (0, (2, 89, .ofNat 0))], [], [(90, zWr (.inr (0, 26, .ofNat 0)))], (26, .ofNat 0, .ofNat 6) :: zWB, zWF, 27), [(164, 39, [(0, (2, 89, .ofNat 0))], [])], .ofNat 5, [])
def zn118_4 : zNd := (100, 2, ([(1, (0, 1, .ofNat 165)), (2, (0, 1, .ofNat 0)), (3, (0, 1, .ofNat 0)), (0, (2, 89, .ofNat 0))], [], [(90, zWr (.inr (0, 26, .ofNat 0)))], (26, .ofNat 0, .ofNat 6) :: zWB, zWF, 27), [(164, 39, [(0, (2, 89, .ofNat 0))], [])], .ofNat 7, [])
def zn118_5 : zNd := (100, 2, ([(1, (0, 1, .ofNat 110)), (2, (0, 1, .ofNat 0)), (3, (0, 1, .ofNat 0)), (0, (2, 89, .ofNat 0))], [], [(90, zWr (.inr (0, 26, .ofNat 0)))], (26, .ofNat 0, .ofNat 6) :: zWB, zWF, 27), [(164, 39, [(0, (2, 89, .ofNat 0))], [])], .ofNat 9, [])
def zn118_6 : zNd := (100, 2, ([(1, (0, 1, .ofNat 55)), (2, (0, 1, .ofNat 0)), (3, (0, 1, .ofNat 0)), (0, (2, 89, .ofNat 0))], [], [(90, zWr (.inr (0, 26, .ofNat 0)))], (26, .ofNat 0, .ofNat 6) :: zWB, zWF, 27), [(164, 39, [(0, (2, 89, .ofNat 0))], [])], .ofNat 11, [])
def zn118_7 : zNd := (100, 30, ([(1, (0, 1, .ofNat 55)), (2, (0, 1, .ofNat 0)), (3, (0, 1, .ofNat 55)), (0, (2, 89, .ofNat 0))], [], [(90, zWr (.inr (0, 26, .ofNat 0)))], (26, .ofNat 0, .ofNat 6) :: zWB, zWF, 27), [(164, 39, [(0, (2, 89, .ofNat 0))], [])], .ofNat 10, [])
def zn118_8 : zNd := (100, 30, ([(1, (0, 1, .ofNat 110)), (2, (0, 1, .ofNat 0)), (3, (0, 1, .ofNat 55)), (0, (2, 89, .ofNat 0))], [], [(90, zWr (.inr (0, 26, .ofNat 0)))], (26, .ofNat 0, .ofNat 6) :: zWB, zWF, 27), [(164, 39, [(0, (2, 89, .ofNat 0))], [])], .ofNat 8, [])
def zn118_9 : zNd := (100, 30, ([(1, (0, 1, .ofNat 165)), (2, (0, 1, .ofNat 0)), (3, (0, 1, .ofNat 55)), (0, (2, 89, .ofNat 0))], [], [(90, zWr (.inr (0, 26, .ofNat 0)))], (26, .ofNat 0, .ofNat 6) :: zWB, zWF, 27), [(164, 39, [(0, (2, 89, .ofNat 0))], [])], .ofNat 6, [])
def zn118_10 : zNd := (100, 30, ([(1, (0, 1, .ofNat 220)), (2, (0, 1, .ofNat 0)), (3, (0, 1, .ofNat 55)), (0, (2, 89, .ofNat 0))], [], [(90, zWr (.inr (0, 26, .ofNat 0)))], (26, .ofNat 0, .ofNat 6) :: zWB, zWF, 27), [(164, 39, [(0, (2, 89, .ofNat 0))], [])], .ofNat 4, [])
def zn118_11 : zNd := (100, 30, ([(1, (0, 1, .ofNat 275)), (2, (0, 1, .ofNat 0)), (3, (0, 1, .ofNat 55)), (0, (2, 89, .ofNat 0))], [], [(90, zWr (.inr (0, 26, .ofNat 0)))], (26, .ofNat 0, .ofNat 6) :: zWB, zWF, 27), [(164, 39, [(0, (2, 89, .ofNat 0))], [])], .ofNat 2, [])
def zn118_12 : zNd := (100, 30, ([(1, (0, 1, .ofNat 330)), (2, (0, 1, .ofNat 0)), (3, (0, 1, .ofNat 55)), (0, (2, 89, .ofNat 0))], [], [(90, zWr (.inr (0, 26, .ofNat 0)))], (26, .ofNat 0, .ofNat 6) :: zWB, zWF, 27), [(164, 39, [(0, (2, 89, .ofNat 0))], [])], .ofNat 0, [])
def zNx118 : List zNd := [zn118_0, zn118_1, zn118_2, zn118_3, zn118_4, zn118_5, zn118_6, zn118_7, zn118_8, zn118_9, zn118_10, zn118_11, zn118_12]
def zEx118 : List zSm := []
theorem ze118 : ∀ q ∈ zEx118, SmOk LL q := fun _ h => absurd h List.not_mem_nil
def zYx118 : List (Nat × Nat) := [(100, 2), (100, 30)]
def zQx118 : List zSp := [(164, 4, 1, 0, 0, none)]
theorem zK118_0 : zcks LL TTl zMx118 zEx118 zYx118 zNx118 zXx118 zQx118 1 100000 [zn118_0, zn118_1] = true := by decide +kernel
theorem zK118_1 : zcks LL TTl zMx118 zEx118 zYx118 zNx118 zXx118 zQx118 1 100000 [zn118_2] = true := by decide +kernel
theorem zK118_2 : zcks LL TTl zMx118 zEx118 zYx118 zNx118 zXx118 zQx118 1 100000 [zn118_3] = true := by decide +kernel
theorem zK118_3 : zcks LL TTl zMx118 zEx118 zYx118 zNx118 zXx118 zQx118 1 100000 [zn118_4] = true := by decide +kernel
theorem zK118_4 : zcks LL TTl zMx118 zEx118 zYx118 zNx118 zXx118 zQx118 1 100000 [zn118_5] = true := by decide +kernel
theorem zK118_5 : zcks LL TTl zMx118 zEx118 zYx118 zNx118 zXx118 zQx118 1 100000 [zn118_6, zn118_7, zn118_8, zn118_9, zn118_10, zn118_11, zn118_12] = true := by decide +kernel
theorem zk118 : ∀ nd ∈ zNx118, zck LL TTl zMx118 zEx118 zYx118 zNx118 zXx118 zQx118 1 100000 nd = true := zck2 (zcks_ok zK118_0) (zck2 (zcks_ok zK118_1) (zck2 (zcks_ok zK118_2) (zck2 (zcks_ok zK118_3) (zck2 (zcks_ok zK118_4) (zcks_ok zK118_5)))))
theorem zO118 : SmOk LL zSx118 := sm_ok (D := 1) (fu := 100000) (SP := zQx118) (NP := zYx118) (ND := zNx118) LL_1 TTl_ok ze118 zk118 (c := .ofNat 12) rfl List.mem_cons_self
/-- told -/
def zMx119 : List Nat := [91]
def zTx119 : zS := ([(0, (2, 89, .ofNat 0)), (1, (0, 26, .ofNat 0))], [], [(90, zWr (.inr (0, 27, .ofNat 0)))], (26, .negSucc 2147483647, .ofNat 2147483647) :: (27, .ofNat 0, .ofNat 6) :: zWB, zWF, 28)
def zXx119 : zS := ([], [(0, 2, .ofNat 0)], [], [(2, .negSucc 2147483647, .ofNat 2147483647)], [], 3)
def zSx119 : zSm := (166, 3, zTx119, zXx119, zMx119)
def zn119_0 : zNd := (166, 0, zTx119, [], .ofNat 0, [])
def zNx119 : List zNd := [zn119_0]
def zEx119 : List zSm := []
theorem ze119 : ∀ q ∈ zEx119, SmOk LL q := fun _ h => absurd h List.not_mem_nil
def zYx119 : List (Nat × Nat) := []
def zQx119 : List zSp := []
theorem zK119 : zcks LL TTl zMx119 zEx119 zYx119 zNx119 zXx119 zQx119 2 100000 zNx119 = true := by decide +kernel
theorem zO119 : SmOk LL zSx119 := sm_ok (D := 2) (fu := 100000) (SP := zQx119) (NP := zYx119) (ND := zNx119) LL_1 TTl_ok ze119 (zcks_ok zK119) (c := .ofNat 0) rfl List.mem_cons_self
/-- laysEndsZ -/
def zMx120 : List Nat := [89, 94, 95, 96, 97, 98, 99]
def zTx120 : zS := ([(1, (0, 1, .ofNat 0)), (0, (2, 89, .ofNat 0))], [], [(90, zWr (.inr (0, 26, .ofNat 0)))], (26, .ofNat 0, .ofNat 6) :: zWB, zWF, 27)
def zXx120 : zS := ([], [], [], [], [], 2)
def zSx120 : zSm := (152, 1, zTx120, zXx120, zMx120)
def zn120_0 : zNd := (152, 0, zTx120, [], .ofNat 131, [])
def zn120_1 : zNd := (152, 2, ([(1, (0, 1, .ofNat 0)), (0, (2, 89, .ofNat 0)), (2, (0, 26, .ofNat 0))], [], [(90, zWr (.inr (0, 27, .ofNat 0)))], (26, .ofNat 0, .ofNat 64) :: (27, .ofNat 0, .ofNat 6) :: zWB, zWF, 28), [], .ofNat 129, [(.negSucc 1, 26)])
def zn120_2 : zNd := (152, 23, ([(1, (0, 1, .ofNat 0)), (2, (0, 1, .ofNat 1)), (0, (2, 89, .ofNat 0))], [], [(90, zWr (.inr (0, 26, .ofNat 0)))], (26, .ofNat 0, .ofNat 6) :: zWB, zWF, 27), [], .ofNat 0, [])
def zNx120 : List zNd := [zn120_0, zn120_1, zn120_2]
def zEx120 : List zSm := []
theorem ze120 : ∀ q ∈ zEx120, SmOk LL q := fun _ h => absurd h List.not_mem_nil
def zYx120 : List (Nat × Nat) := [(152, 2), (152, 23)]
def zQx120 : List zSp := []
theorem zK120 : zcks LL TTl zMx120 zEx120 zYx120 zNx120 zXx120 zQx120 0 100000 zNx120 = true := by decide +kernel
theorem zO120 : SmOk LL zSx120 := sm_ok (D := 0) (fu := 100000) (SP := zQx120) (NP := zYx120) (ND := zNx120) LL_1 TTl_ok ze120 (zcks_ok zK120) (c := .ofNat 131) rfl List.mem_cons_self
/-- ones1 -/
def zMx121 : List Nat := []
def zTx121 : zS := ([(0, (0, 1, .ofNat 1))], [], [], [(0, .ofNat 0, .ofNat 160)], [], 2)
def zXx121 : zS := ([], [(0, 1, .ofNat 1)], [], [], [], 2)
def zSx121 : zSm := (98, 1, zTx121, zXx121, zMx121)
def zn121_0 : zNd := (98, 0, zTx121, [], .ofNat 0, [])
def zNx121 : List zNd := [zn121_0]
def zEx121 : List zSm := []
theorem ze121 : ∀ q ∈ zEx121, SmOk LL q := fun _ h => absurd h List.not_mem_nil
def zYx121 : List (Nat × Nat) := []
def zQx121 : List zSp := [(98, 0, 0, 0, 0, none)]
theorem zK121 : zcks LL TTl zMx121 zEx121 zYx121 zNx121 zXx121 zQx121 0 100000 zNx121 = true := by decide +kernel
theorem zO121 : SmOk LL zSx121 := sm_ok (D := 0) (fu := 100000) (SP := zQx121) (NP := zYx121) (ND := zNx121) LL_1 TTl_ok ze121 (zcks_ok zK121) (c := .ofNat 0) rfl List.mem_cons_self
/-- ones2 -/
def zMx122 : List Nat := []
def zTx122 : zS := ([(0, (0, 2, .ofNat 0))], [], [], [(0, .ofNat 0, .ofNat 160), (2, .ofNat 1, .ofNat 3)], [], 3)
def zXx122 : zS := ([], [(0, 2, .ofNat 0)], [], [(2, .ofNat 1, .ofNat 2)], [], 3)
def zSx122 : zSm := (98, 1, zTx122, zXx122, zMx122)
def zn122_0 : zNd := (98, 0, zTx122, [], .ofNat 0, [])
def zNx122 : List zNd := [zn122_0]
def zEx122 : List zSm := []
theorem ze122 : ∀ q ∈ zEx122, SmOk LL q := fun _ h => absurd h List.not_mem_nil
def zYx122 : List (Nat × Nat) := []
def zQx122 : List zSp := [(98, 0, 0, 0, 0, none)]
theorem zK122 : zcks LL TTl zMx122 zEx122 zYx122 zNx122 zXx122 zQx122 0 100000 zNx122 = true := by decide +kernel
theorem zO122 : SmOk LL zSx122 := sm_ok (D := 0) (fu := 100000) (SP := zQx122) (NP := zYx122) (ND := zNx122) LL_1 TTl_ok ze122 (zcks_ok zK122) (c := .ofNat 0) rfl List.mem_cons_self
/-- ones3 -/
def zMx123 : List Nat := []
def zTx123 : zS := ([(0, (0, 2, .ofNat 0))], [], [], [(0, .ofNat 0, .ofNat 160), (2, .ofNat 1, .ofNat 7)], [], 3)
def zXx123 : zS := ([], [(0, 2, .ofNat 0)], [], [(2, .ofNat 1, .ofNat 3)], [], 3)
def zSx123 : zSm := (98, 1, zTx123, zXx123, zMx123)
def zn123_0 : zNd := (98, 0, zTx123, [], .ofNat 0, [])
def zNx123 : List zNd := [zn123_0]
def zEx123 : List zSm := []
theorem ze123 : ∀ q ∈ zEx123, SmOk LL q := fun _ h => absurd h List.not_mem_nil
def zYx123 : List (Nat × Nat) := []
def zQx123 : List zSp := [(98, 0, 0, 0, 0, none)]
theorem zK123 : zcks LL TTl zMx123 zEx123 zYx123 zNx123 zXx123 zQx123 0 100000 zNx123 = true := by decide +kernel
theorem zO123 : SmOk LL zSx123 := sm_ok (D := 0) (fu := 100000) (SP := zQx123) (NP := zYx123) (ND := zNx123) LL_1 TTl_ok ze123 (zcks_ok zK123) (c := .ofNat 0) rfl List.mem_cons_self
/-- ones4 -/
def zMx124 : List Nat := []
def zTx124 : zS := ([(0, (0, 2, .ofNat 0))], [], [], [(0, .ofNat 0, .ofNat 160), (2, .ofNat 1, .ofNat 15)], [], 3)
def zXx124 : zS := ([], [(0, 2, .ofNat 0)], [], [(2, .ofNat 1, .ofNat 4)], [], 3)
def zSx124 : zSm := (98, 1, zTx124, zXx124, zMx124)
def zn124_0 : zNd := (98, 0, zTx124, [], .ofNat 0, [])
def zNx124 : List zNd := [zn124_0]
def zEx124 : List zSm := []
theorem ze124 : ∀ q ∈ zEx124, SmOk LL q := fun _ h => absurd h List.not_mem_nil
def zYx124 : List (Nat × Nat) := []
def zQx124 : List zSp := [(98, 0, 0, 0, 0, none)]
theorem zK124 : zcks LL TTl zMx124 zEx124 zYx124 zNx124 zXx124 zQx124 0 100000 zNx124 = true := by decide +kernel
theorem zO124 : SmOk LL zSx124 := sm_ok (D := 0) (fu := 100000) (SP := zQx124) (NP := zYx124) (ND := zNx124) LL_1 TTl_ok ze124 (zcks_ok zK124) (c := .ofNat 0) rfl List.mem_cons_self
