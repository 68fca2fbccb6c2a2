/-! the checker on the methods, printed -/
/-- taking -/
def zMx124 : List Nat := [89, 91, 94, 95, 96, 97, 98, 99]
def zTx124 : zS := ([(0, (2, 89, .ofNat 0)), (1, (0, 26, .ofNat 0)), (2, (0, 27, .ofNat 0))], [], [(90, zWr (.inr (0, 28, .ofNat 0)))], (26, .negSucc 2147483647, .ofNat 2147483647) :: (27, .negSucc 2147483647, .ofNat 2147483647) :: (28, .ofNat 0, .ofNat 6) :: zWB, zWF, 29)
def zXx124 : zS := ([], [(0, 2, .ofNat 0)], [], [(2, .negSucc 2147483647, .ofNat 2147483647)], [], 3)
def zSx124 : zSm := (159, 7, zTx124, zXx124, zMx124)
def zn124_0 : zNd := (159, 0, zTx124, [], .ofNat 0, [])
def zNx124 : List zNd := [zn124_0]
def zEx124 : List zSm := [zSx57, zSx58, zSx59, zSx60, zSx61, zSx62, zSx65, zSx68, zSx73, zSx74, zSx75, zSx76, zSx77, zSx78, zSx94, zSx95, zSx96, zSx97, zSx98, zSx99]
theorem ze124 : ∀ q ∈ zEx124, SmOk LL q := List.forall_mem_cons.mpr ⟨zO57, List.forall_mem_cons.mpr ⟨zO58, List.forall_mem_cons.mpr ⟨zO59, List.forall_mem_cons.mpr ⟨zO60, List.forall_mem_cons.mpr ⟨zO61, List.forall_mem_cons.mpr ⟨zO62, List.forall_mem_cons.mpr ⟨zO65, List.forall_mem_cons.mpr ⟨zO68, List.forall_mem_cons.mpr ⟨zO73, List.forall_mem_cons.mpr ⟨zO74, List.forall_mem_cons.mpr ⟨zO75, List.forall_mem_cons.mpr ⟨zO76, List.forall_mem_cons.mpr ⟨zO77, List.forall_mem_cons.mpr ⟨zO78, List.forall_mem_cons.mpr ⟨zO94, List.forall_mem_cons.mpr ⟨zO95, List.forall_mem_cons.mpr ⟨zO96, List.forall_mem_cons.mpr ⟨zO97, List.forall_mem_cons.mpr ⟨zO98, List.forall_mem_cons.mpr ⟨zO99, fun _ h => absurd h List.not_mem_nil⟩⟩⟩⟩⟩⟩⟩⟩⟩⟩⟩⟩⟩⟩⟩⟩⟩⟩⟩⟩
def zYx124 : List (Nat × Nat) := []
def zQx124 : List zSp := [(159, 0, 2, 90, 0, none), (159, 0, 2, 90, 1, some (.ofNat 0))]
theorem zK124 : zcks LL TTl zMx124 zEx124 zYx124 zNx124 zXx124 zQx124 6 100000 zNx124 = true := by decide +kernel
theorem zO124 : SmOk LL zSx124 := sm_ok (D := 6) (fu := 100000) (SP := zQx124) (NP := zYx124) (ND := zNx124) LL_1 TTl_ok ze124 (zcks_ok zK124) (c := .ofNat 0) rfl List.mem_cons_self
/-- back -/
def zMx125 : List Nat := [89, 90, 91]
def zTx125 : zS := ([(0, (2, 89, .ofNat 0))], [], [(90, zWr (.inr (0, 26, .ofNat 0)))], (26, .ofNat 0, .ofNat 6) :: zWB, zWF, 27)
def zXx125 : zS := ([], [(0, 26, .ofNat 0)], [(90, zWr (.inr (0, 27, .ofNat 0)))], (26, .negSucc 2, .ofNat 6) :: (27, .ofNat 0, .ofNat 6) :: zWB, zWF, 28)
def zSx125 : zSm := (164, 2, zTx125, zXx125, zMx125)
def zn125_0 : zNd := (164, 0, zTx125, [], .ofNat 12, [])
def zn125_1 : zNd := (100, 2, ([(1, (0, 1, .ofNat 330)), (2, (0, 1, .ofNat 0)), (3, (0, 1, .ofNat 0)), (0, (2, 89, .ofNat 0))], [], [(90, zWr (.inr (0, 26, .ofNat 0)))], (26, .ofNat 0, .ofNat 6) :: zWB, zWF, 27), [(164, 39, [(0, (2, 89, .ofNat 0))], [])], .ofNat 1, [])
def zn125_2 : zNd := (100, 2, ([(1, (0, 1, .ofNat 275)), (2, (0, 1, .ofNat 0)), (3, (0, 1, .ofNat 0)), (0, (2, 89, .ofNat 0))], [], [(90, zWr (.inr (0, 26, .ofNat 0)))], (26, .ofNat 0, .ofNat 6) :: zWB, zWF, 27), [(164, 39, [(0, (2, 89, .ofNat 0))], [])], .ofNat 3, [])
def zn125_3 : zNd := (100, 2, ([(1, (0, 1, .ofNat 220)), (2, (0, 1, .ofNat 0)), (3, (0, 1, .ofNat 0)), (0, (2, 89, .ofNat 0))], [], [(90, zWr (.inr (0, 26, .ofNat 0)))], (26, .ofNat 0, .ofNat 6) :: zWB, zWF, 27), [(164, 39, [(0, (2, 89, .ofNat 0))], [])], .ofNat 5, [])
def zn125_4 : zNd := (100, 2, ([(1, (0, 1, .ofNat 165)), (2, (0, 1, .ofNat 0)), (3, (0, 1, .ofNat 0)), (0, (2, 89, .ofNat 0))], [], [(90, zWr (.inr (0, 26, .ofNat 0)))], (26, .ofNat 0, .ofNat 6) :: zWB, zWF, 27), [(164, 39, [(0, (2, 89, .ofNat 0))], [])], .ofNat 7, [])
def zn125_5 : zNd := (100, 2, ([(1, (0, 1, .ofNat 110)), (2, (0, 1, .ofNat 0)), (3, (0, 1, .ofNat 0)), (0, (2, 89, .ofNat 0))], [], [(90, zWr (.inr (0, 26, .ofNat 0)))], (26, .ofNat 0, .ofNat 6) :: zWB, zWF, 27), [(164, 39, [(0, (2, 89, .ofNat 0))], [])], .ofNat 9, [])
def zn125_6 : zNd := (100, 2, ([(1, (0, 1, .ofNat 55)), (2, (0, 1, .ofNat 0)), (3, (0, 1, .ofNat 0)), (0, (2, 89, .ofNat 0))], [], [(90, zWr (.inr (0, 26, .ofNat 0)))], (26, .ofNat 0, .ofNat 6) :: zWB, zWF, 27), [(164, 39, [(0, (2, 89, .ofNat 0))], [])], .ofNat 11, [])
def zn125_7 : zNd := (100, 30, ([(1, (0, 1, .ofNat 55)), (2, (0, 1, .ofNat 0)), (3, (0, 1, .ofNat 55)), (0, (2, 89, .ofNat 0))], [], [(90, zWr (.inr (0, 26, .ofNat 0)))], (26, .ofNat 0, .ofNat 6) :: zWB, zWF, 27), [(164, 39, [(0, (2, 89, .ofNat 0))], [])], .ofNat 10, [])
def zn125_8 : zNd := (100, 30, ([(1, (0, 1, .ofNat 110)), (2, (0, 1, .ofNat 0)), (3, (0, 1, .ofNat 55)), (0, (2, 89, .ofNat 0))], [], [(90, zWr (.inr (0, 26, .ofNat 0)))], (26, .ofNat 0, .ofNat 6) :: zWB, zWF, 27), [(164, 39, [(0, (2, 89, .ofNat 0))], [])], .ofNat 8, [])
def zn125_9 : zNd := (100, 30, ([(1, (0, 1, .ofNat 165)), (2, (0, 1, .ofNat 0)), (3, (0, 1, .ofNat 55)), (0, (2, 89, .ofNat 0))], [], [(90, zWr (.inr (0, 26, .ofNat 0)))], (26, .ofNat 0, .ofNat 6) :: zWB, zWF, 27), [(164, 39, [(0, (2, 89, .ofNat 0))], [])], .ofNat 6, [])
def zn125_10 : zNd := (100, 30, ([(1, (0, 1, .ofNat 220)), (2, (0, 1, .ofNat 0)), (3, (0, 1, .ofNat 55)), (0, (2, 89, .ofNat 0))], [], [(90, zWr (.inr (0, 26, .ofNat 0)))], (26, .ofNat 0, .ofNat 6) :: zWB, zWF, 27), [(164, 39, [(0, (2, 89, .ofNat 0))], [])], .ofNat 4, [])
def zn125_11 : zNd := (100, 30, ([(1, (0, 1, .ofNat 275)), (2, (0, 1, .ofNat 0)), (3, (0, 1, .ofNat 55)), (0, (2, 89, .ofNat 0))], [], [(90, zWr (.inr (0, 26, .ofNat 0)))], (26, .ofNat 0, .ofNat 6) :: zWB, zWF, 27), [(164, 39, [(0, (2, 89, .ofNat 0))], [])], .ofNat 2, [])
def zn125_12 : zNd := (100, 30, ([(1, (0, 1, .ofNat 330)), (2, (0, 1, .ofNat 0)), (3, (0, 1, .ofNat 55)), (0, (2, 89, .ofNat 0))], [], [(90, zWr (.inr (0, 26, .ofNat 0)))], (26, .ofNat 0, .ofNat 6) :: zWB, zWF, 27), [(164, 39, [(0, (2, 89, .ofNat 0))], [])], .ofNat 0, [])
def zNx125 : List zNd := [zn125_0, zn125_1, zn125_2, zn125_3, zn125_4, zn125_5, zn125_6, zn125_7, zn125_8, zn125_9, zn125_10, zn125_11, zn125_12]
def zEx125 : List zSm := []
theorem ze125 : ∀ q ∈ zEx125, SmOk LL q := fun _ h => absurd h List.not_mem_nil
def zYx125 : List (Nat × Nat) := [(100, 2), (100, 30)]
def zQx125 : List zSp := [(164, 4, 1, 0, 0, none)]
theorem zK125_0 : zcks LL TTl zMx125 zEx125 zYx125 zNx125 zXx125 zQx125 1 100000 [zn125_0, zn125_1] = true := by decide +kernel
theorem zK125_1 : zcks LL TTl zMx125 zEx125 zYx125 zNx125 zXx125 zQx125 1 100000 [zn125_2] = true := by decide +kernel
theorem zK125_2 : zcks LL TTl zMx125 zEx125 zYx125 zNx125 zXx125 zQx125 1 100000 [zn125_3] = true := by decide +kernel
theorem zK125_3 : zcks LL TTl zMx125 zEx125 zYx125 zNx125 zXx125 zQx125 1 100000 [zn125_4] = true := by decide +kernel
theorem zK125_4 : zcks LL TTl zMx125 zEx125 zYx125 zNx125 zXx125 zQx125 1 100000 [zn125_5] = true := by decide +kernel
theorem zK125_5 : zcks LL TTl zMx125 zEx125 zYx125 zNx125 zXx125 zQx125 1 100000 [zn125_6, zn125_7, zn125_8, zn125_9, zn125_10, zn125_11, zn125_12] = true := by decide +kernel
theorem zk125 : ∀ nd ∈ zNx125, zck LL TTl zMx125 zEx125 zYx125 zNx125 zXx125 zQx125 1 100000 nd = true := zck2 (zcks_ok zK125_0) (zck2 (zcks_ok zK125_1) (zck2 (zcks_ok zK125_2) (zck2 (zcks_ok zK125_3) (zck2 (zcks_ok zK125_4) (zcks_ok zK125_5)))))
theorem zO125 : SmOk LL zSx125 := sm_ok (D := 1) (fu := 100000) (SP := zQx125) (NP := zYx125) (ND := zNx125) LL_1 TTl_ok ze125 zk125 (c := .ofNat 12) rfl List.mem_cons_self
/-- told -/
def zMx126 : List Nat := [91]
def zTx126 : zS := ([(0, (2, 89, .ofNat 0)), (1, (0, 26, .ofNat 0))], [], [(90, zWr (.inr (0, 27, .ofNat 0)))], (26, .negSucc 2147483647, .ofNat 2147483647) :: (27, .ofNat 0, .ofNat 6) :: zWB, zWF, 28)
def zXx126 : zS := ([], [(0, 2, .ofNat 0)], [], [(2, .negSucc 2147483647, .ofNat 2147483647)], [], 3)
def zSx126 : zSm := (166, 3, zTx126, zXx126, zMx126)
def zn126_0 : zNd := (166, 0, zTx126, [], .ofNat 0, [])
def zNx126 : List zNd := [zn126_0]
def zEx126 : List zSm := [zSx86]
theorem ze126 : ∀ q ∈ zEx126, SmOk LL q := List.forall_mem_cons.mpr ⟨zO86, fun _ h => absurd h List.not_mem_nil⟩
def zYx126 : List (Nat × Nat) := []
def zQx126 : List zSp := []
theorem zK126 : zcks LL TTl zMx126 zEx126 zYx126 zNx126 zXx126 zQx126 2 100000 zNx126 = true := by decide +kernel
theorem zO126 : SmOk LL zSx126 := sm_ok (D := 2) (fu := 100000) (SP := zQx126) (NP := zYx126) (ND := zNx126) LL_1 TTl_ok ze126 (zcks_ok zK126) (c := .ofNat 0) rfl List.mem_cons_self
/-- laysEndsZ -/
def zMx127 : List Nat := [89, 94, 95, 96, 97, 98, 99]
def zTx127 : zS := ([(1, (0, 1, .ofNat 0)), (0, (2, 89, .ofNat 0))], [], [(90, zWr (.inr (0, 26, .ofNat 0)))], (26, .ofNat 0, .ofNat 6) :: zWB, zWF, 27)
def zXx127 : zS := ([], [], [], [], [], 2)
def zSx127 : zSm := (152, 1, zTx127, zXx127, zMx127)
def zn127_0 : zNd := (152, 0, zTx127, [], .ofNat 131, [])
def zn127_1 : zNd := (152, 2, ([(1, (0, 1, .ofNat 0)), (0, (2, 89, .ofNat 0)), (2, (0, 26, .ofNat 0))], [], [(90, zWr (.inr (0, 27, .ofNat 0)))], (26, .ofNat 0, .ofNat 64) :: (27, .ofNat 0, .ofNat 6) :: zWB, zWF, 28), [], .ofNat 129, [(.negSucc 1, 26)])
def zn127_2 : zNd := (152, 23, ([(1, (0, 1, .ofNat 0)), (2, (0, 1, .ofNat 1)), (0, (2, 89, .ofNat 0))], [], [(90, zWr (.inr (0, 26, .ofNat 0)))], (26, .ofNat 0, .ofNat 6) :: zWB, zWF, 27), [], .ofNat 0, [])
def zNx127 : List zNd := [zn127_0, zn127_1, zn127_2]
def zEx127 : List zSm := []
theorem ze127 : ∀ q ∈ zEx127, SmOk LL q := fun _ h => absurd h List.not_mem_nil
def zYx127 : List (Nat × Nat) := [(152, 2), (152, 23)]
def zQx127 : List zSp := []
theorem zK127 : zcks LL TTl zMx127 zEx127 zYx127 zNx127 zXx127 zQx127 0 100000 zNx127 = true := by decide +kernel
theorem zO127 : SmOk LL zSx127 := sm_ok (D := 0) (fu := 100000) (SP := zQx127) (NP := zYx127) (ND := zNx127) LL_1 TTl_ok ze127 (zcks_ok zK127) (c := .ofNat 131) rfl List.mem_cons_self
