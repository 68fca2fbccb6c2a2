/-! the checker on the methods, printed -/
/-- joins -/
def zMx120 : List Nat := [89, 90, 91]
def zTx120 : zS := ([(0, (2, 89, .ofNat 0)), (1, (0, 26, .ofNat 0)), (2, (0, 27, .ofNat 0))], [], [(90, zWr (.inr (0, 28, .ofNat 0)))], (26, .negSucc 2147483647, .ofNat 2147483647) :: (27, .negSucc 2147483647, .ofNat 2147483647) :: (28, .ofNat 0, .ofNat 6) :: zWB, zWF, 29)
def zXx120 : zS := ([], [(0, 26, .ofNat 0)], [(90, zWr (.inr (0, 27, .ofNat 0)))], (26, .negSucc 2, .ofNat 3) :: (27, .ofNat 0, .ofNat 6) :: zWB, zWF, 28)
def zSx120 : zSm := (141, 3, zTx120, zXx120, zMx120)
def zn120_0 : zNd := (141, 0, zTx120, [], .ofNat 82, [])
def zn120_1 : zNd := (141, 75, ([(0, (2, 89, .ofNat 0)), (1, (0, 26, .ofNat 0)), (2, (0, 27, .ofNat 0)), (3, (0, 28, .ofNat 0))], [], [(90, zWr (.inr (0, 29, .ofNat 0)))], (4, .ofNat 1, .ofNat 4) :: (26, .ofNat 0, .ofNat 3) :: (27, .ofNat 0, .ofNat 3) :: (28, .ofNat 0, .ofNat 6) :: (29, .ofNat 0, .ofNat 6) :: zWB, zWF, 30), [], .ofNat 80, [(.negSucc 1, 28)])
def zn120_2 : zNd := (141, 136, ([(2, (0, 1, .ofNat 3)), (0, (2, 89, .ofNat 0)), (1, (0, 26, .ofNat 0)), (3, (0, 27, .ofNat 0))], [(2, 89, .ofNat 0)], [(90, zWr (.inr (0, 28, .ofNat 0)))], (4, .ofNat 1, .ofNat 4) :: (26, .ofNat 0, .ofNat 3) :: (27, .ofNat 0, .ofNat 6) :: (28, .ofNat 0, .ofNat 6) :: zWB, zWF, 29), [], .ofNat 64, [])
def zn120_3 : zNd := (141, 136, ([(2, (0, 1, .ofNat 2)), (0, (2, 89, .ofNat 0)), (1, (0, 26, .ofNat 0)), (3, (0, 27, .ofNat 0))], [(2, 89, .ofNat 0)], [(90, zWr (.inr (0, 28, .ofNat 0)))], (4, .ofNat 1, .ofNat 4) :: (26, .ofNat 0, .ofNat 3) :: (27, .ofNat 0, .ofNat 6) :: (28, .ofNat 0, .ofNat 6) :: zWB, zWF, 29), [], .ofNat 65, [])
def zn120_4 : zNd := (141, 136, ([(2, (0, 1, .ofNat 1)), (0, (2, 89, .ofNat 0)), (1, (0, 26, .ofNat 0)), (3, (0, 27, .ofNat 0))], [(2, 89, .ofNat 0)], [(90, zWr (.inr (0, 28, .ofNat 0)))], (4, .ofNat 1, .ofNat 4) :: (26, .ofNat 0, .ofNat 3) :: (27, .ofNat 0, .ofNat 6) :: (28, .ofNat 0, .ofNat 6) :: zWB, zWF, 29), [], .ofNat 66, [])
def zn120_5 : zNd := (141, 136, ([(2, (0, 1, .ofNat 0)), (0, (2, 89, .ofNat 0)), (1, (0, 26, .ofNat 0)), (3, (0, 27, .ofNat 0))], [(2, 89, .ofNat 0)], [(90, zWr (.inr (0, 28, .ofNat 0)))], (4, .ofNat 1, .ofNat 4) :: (26, .ofNat 0, .ofNat 3) :: (27, .ofNat 0, .ofNat 6) :: (28, .ofNat 0, .ofNat 6) :: zWB, zWF, 29), [], .ofNat 67, [])
def zn120_6 : zNd := (141, 200, ([(0, (2, 89, .ofNat 0)), (1, (0, 26, .ofNat 0)), (2, (0, 27, .ofNat 0)), (3, (0, 28, .ofNat 0)), (4, (0, 29, .ofNat 0))], [], [(90, zWr (.inr (0, 30, .ofNat 0)))], (4, .ofNat 0, .ofNat 3) :: (26, .ofNat 0, .ofNat 3) :: (27, .ofNat 0, .ofNat 3) :: (28, .ofNat 0, .ofNat 15) :: (29, .ofNat 0, .ofNat 3) :: (30, .ofNat 0, .ofNat 6) :: zWB, zWG, 31), [], .ofNat 62, [(.negSucc 15, 29)])
def zn120_7 : zNd := (141, 236, ([(0, (2, 89, .ofNat 0)), (1, (0, 26, .ofNat 0)), (2, (0, 27, .ofNat 0)), (3, (0, 28, .ofNat 0)), (4, (0, 29, .ofNat 0)), (5, (0, 30, .ofNat 0))], [], [(90, zWr (.inr (0, 31, .ofNat 0)))], (4, .ofNat 1, .ofNat 3) :: (26, .ofNat 0, .ofNat 3) :: (27, .ofNat 0, .ofNat 3) :: (28, .ofNat 0, .ofNat 15) :: (29, .ofNat 0, .ofNat 2) :: (30, .ofNat 0, .ofNat 6) :: (31, .ofNat 0, .ofNat 6) :: zWB, zWG, 32), [], .ofNat 60, [(.negSucc 15, 29), (.negSucc 1, 30)])
def zNx120 : List zNd := [zn120_0, zn120_1, zn120_2, zn120_3, zn120_4, zn120_5, zn120_6, zn120_7]
def zEx120 : List zSm := [zSx114]
theorem ze120 : ∀ q ∈ zEx120, SmOk LL q := List.forall_mem_cons.mpr ⟨zO114, fun _ h => absurd h List.not_mem_nil⟩
def zYx120 : List (Nat × Nat) := [(141, 75), (141, 136), (141, 200), (141, 236)]
def zQx120 : List zSp := [(141, 135, 0, 2, 0, none), (141, 156, 0, 1, 0, none), (141, 165, 0, 3, 0, none)]
theorem zK120_0 : zcks LL TTl zMx120 zEx120 zYx120 zNx120 zXx120 zQx120 2 100000 [zn120_0, zn120_1] = true := by decide +kernel
theorem zK120_1 : zcks LL TTl zMx120 zEx120 zYx120 zNx120 zXx120 zQx120 2 100000 [zn120_2] = true := by decide +kernel
theorem zK120_2 : zcks LL TTl zMx120 zEx120 zYx120 zNx120 zXx120 zQx120 2 100000 [zn120_3] = true := by decide +kernel
theorem zK120_3 : zcks LL TTl zMx120 zEx120 zYx120 zNx120 zXx120 zQx120 2 100000 [zn120_4] = true := by decide +kernel
theorem zK120_4 : zcks LL TTl zMx120 zEx120 zYx120 zNx120 zXx120 zQx120 2 100000 [zn120_5] = true := by decide +kernel
theorem zK120_5 : zcks LL TTl zMx120 zEx120 zYx120 zNx120 zXx120 zQx120 2 100000 [zn120_6, zn120_7] = true := by decide +kernel
theorem zk120 : ∀ nd ∈ zNx120, zck LL TTl zMx120 zEx120 zYx120 zNx120 zXx120 zQx120 2 100000 nd = true := zck2 (zcks_ok zK120_0) (zck2 (zcks_ok zK120_1) (zck2 (zcks_ok zK120_2) (zck2 (zcks_ok zK120_3) (zck2 (zcks_ok zK120_4) (zcks_ok zK120_5)))))
theorem zO120 : SmOk LL zSx120 := sm_ok (D := 2) (fu := 100000) (SP := zQx120) (NP := zYx120) (ND := zNx120) LL_1 TTl_ok ze120 zk120 (c := .ofNat 82) rfl List.mem_cons_self
/-- takes -/
def zMx121 : List Nat := [89, 90, 91, 94, 95]
def zTx121 : zS := ([(0, (2, 89, .ofNat 0)), (1, (0, 26, .ofNat 0))], [], [(90, zWr (.inr (0, 27, .ofNat 0)))], (26, .negSucc 2147483647, .ofNat 2147483647) :: (27, .ofNat 0, .ofNat 6) :: zWB, zWF, 28)
def zXx121 : zS := ([], [(0, 26, .ofNat 0)], [(90, zWr (.inr (0, 27, .ofNat 0)))], (26, .negSucc 2, .ofNat 3) :: (27, .ofNat 0, .ofNat 6) :: zWB, zWF, 28)
def zSx121 : zSm := (144, 6, zTx121, zXx121, zMx121)
def zn121_0 : zNd := (144, 0, zTx121, [], .ofNat 0, [])
def zNx121 : List zNd := [zn121_0]
def zEx121 : List zSm := [zSx64, zSx79, zSx112]
theorem ze121 : ∀ q ∈ zEx121, SmOk LL q := List.forall_mem_cons.mpr ⟨zO64, List.forall_mem_cons.mpr ⟨zO79, List.forall_mem_cons.mpr ⟨zO112, fun _ h => absurd h List.not_mem_nil⟩⟩⟩
def zYx121 : List (Nat × Nat) := []
def zQx121 : List zSp := []
theorem zK121 : zcks LL TTl zMx121 zEx121 zYx121 zNx121 zXx121 zQx121 5 100000 zNx121 = true := by decide +kernel
theorem zO121 : SmOk LL zSx121 := sm_ok (D := 5) (fu := 100000) (SP := zQx121) (NP := zYx121) (ND := zNx121) LL_1 TTl_ok ze121 (zcks_ok zK121) (c := .ofNat 0) rfl List.mem_cons_self
/-- vetoes -/
def zMx122 : List Nat := [89, 90, 91]
def zTx122 : zS := ([(0, (2, 89, .ofNat 0)), (1, (0, 26, .ofNat 0))], [], [(90, zWr (.inr (0, 27, .ofNat 0)))], (26, .negSucc 2147483647, .ofNat 2147483647) :: (27, .ofNat 0, .ofNat 6) :: zWB, zWF, 28)
def zXx122 : zS := ([], [(0, 26, .ofNat 0)], [(90, zWr (.inr (0, 27, .ofNat 0)))], (26, .negSucc 2, .ofNat 5) :: (27, .ofNat 0, .ofNat 6) :: zWB, zWF, 28)
def zSx122 : zSm := (146, 3, zTx122, zXx122, zMx122)
def zn122_0 : zNd := (146, 0, zTx122, [], .ofNat 0, [])
def zNx122 : List zNd := [zn122_0]
def zEx122 : List zSm := [zSx79, zSx111]
theorem ze122 : ∀ q ∈ zEx122, SmOk LL q := List.forall_mem_cons.mpr ⟨zO79, List.forall_mem_cons.mpr ⟨zO111, fun _ h => absurd h List.not_mem_nil⟩⟩
def zYx122 : List (Nat × Nat) := []
def zQx122 : List zSp := [(146, 71, 0, 2, 0, none)]
theorem zK122 : zcks LL TTl zMx122 zEx122 zYx122 zNx122 zXx122 zQx122 2 100000 zNx122 = true := by decide +kernel
theorem zO122 : SmOk LL zSx122 := sm_ok (D := 2) (fu := 100000) (SP := zQx122) (NP := zYx122) (ND := zNx122) LL_1 TTl_ok ze122 (zcks_ok zK122) (c := .ofNat 0) rfl List.mem_cons_self
/-- against -/
def zMx123 : List Nat := [89, 91, 94, 95, 96, 97, 98, 99]
def zTx123 : zS := ([(0, (2, 89, .ofNat 0)), (1, (0, 26, .ofNat 0))], [], [(90, zWr (.inr (0, 27, .ofNat 0)))], (26, .negSucc 2147483647, .ofNat 2147483647) :: (27, .ofNat 0, .ofNat 6) :: zWB, zWF, 28)
def zXx123 : zS := ([], [(0, 2, .ofNat 0)], [], [(2, .negSucc 2, .ofNat 3)], [], 3)
def zSx123 : zSm := (158, 7, zTx123, zXx123, zMx123)
def zn123_0 : zNd := (158, 0, zTx123, [], .ofNat 0, [])
def zNx123 : List zNd := [zn123_0]
def zEx123 : List zSm := [zSx57, zSx58, zSx59, zSx60, zSx61, zSx62, zSx63, zSx68, zSx73, zSx74, zSx75, zSx76, zSx77, zSx78, zSx94, zSx95, zSx96, zSx97, zSx98, zSx99]
theorem ze123 : ∀ q ∈ zEx123, SmOk LL q := List.forall_mem_cons.mpr ⟨zO57, List.forall_mem_cons.mpr ⟨zO58, List.forall_mem_cons.mpr ⟨zO59, List.forall_mem_cons.mpr ⟨zO60, List.forall_mem_cons.mpr ⟨zO61, List.forall_mem_cons.mpr ⟨zO62, List.forall_mem_cons.mpr ⟨zO63, List.forall_mem_cons.mpr ⟨zO68, List.forall_mem_cons.mpr ⟨zO73, List.forall_mem_cons.mpr ⟨zO74, List.forall_mem_cons.mpr ⟨zO75, List.forall_mem_cons.mpr ⟨zO76, List.forall_mem_cons.mpr ⟨zO77, List.forall_mem_cons.mpr ⟨zO78, List.forall_mem_cons.mpr ⟨zO94, List.forall_mem_cons.mpr ⟨zO95, List.forall_mem_cons.mpr ⟨zO96, List.forall_mem_cons.mpr ⟨zO97, List.forall_mem_cons.mpr ⟨zO98, List.forall_mem_cons.mpr ⟨zO99, fun _ h => absurd h List.not_mem_nil⟩⟩⟩⟩⟩⟩⟩⟩⟩⟩⟩⟩⟩⟩⟩⟩⟩⟩⟩⟩
def zYx123 : List (Nat × Nat) := []
def zQx123 : List zSp := [(158, 0, 2, 90, 0, none), (158, 0, 2, 90, 1, some (.ofNat 0))]
theorem zK123 : zcks LL TTl zMx123 zEx123 zYx123 zNx123 zXx123 zQx123 6 100000 zNx123 = true := by decide +kernel
theorem zO123 : SmOk LL zSx123 := sm_ok (D := 6) (fu := 100000) (SP := zQx123) (NP := zYx123) (ND := zNx123) LL_1 TTl_ok ze123 (zcks_ok zK123) (c := .ofNat 0) rfl List.mem_cons_self
