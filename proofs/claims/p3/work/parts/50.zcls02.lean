/-! the checker on the methods, printed -/
/-- reason -/
def zMx32 : List Nat := [0]
def zTx32 : zS := ([(0, (2, 0, .ofNat 0)), (1, (0, 2, .ofNat 0))], [], [], [(0, .ofNat 0, .ofNat 160), (2, .negSucc 2147483647, .ofNat 2147483647)], [], 3)
def zXx32 : zS := ([], [(0, 2, .ofNat 0)], [], [(2, .negSucc 2147483647, .ofNat 2147483647)], [], 3)
def zSx32 : zSm := (66, 2, zTx32, zXx32, zMx32)
def zn32_0 : zNd := (66, 0, zTx32, [], .ofNat 0, [])
def zNx32 : List zNd := [zn32_0]
def zEx32 : List zSm := []
theorem ze32 : ∀ q ∈ zEx32, SmOk LL q := fun _ h => absurd h List.not_mem_nil
def zYx32 : List (Nat × Nat) := []
def zQx32 : List zSp := []
theorem zK32 : zcks LL TTl zMx32 zEx32 zYx32 zNx32 zXx32 zQx32 1 100000 zNx32 = true := by decide +kernel
theorem zO32 : SmOk LL zSx32 := sm_ok (D := 1) (fu := 100000) (SP := zQx32) (NP := zYx32) (ND := zNx32) LL_1 TTl_ok ze32 (zcks_ok zK32) (c := .ofNat 0) rfl List.mem_cons_self
/-- lot -/
def zMx33 : List Nat := [0]
def zTx33 : zS := ([(0, (2, 0, .ofNat 0)), (1, (0, 2, .ofNat 0)), (2, (0, 3, .ofNat 0))], [], [], [(0, .ofNat 0, .ofNat 160), (2, .negSucc 2147483647, .ofNat 2147483647), (3, .negSucc 2147483647, .ofNat 2147483647)], [], 4)
def zXx33 : zS := ([], [(0, 2, .ofNat 0)], [], [(2, .negSucc 2147483647, .ofNat 2147483647)], [], 3)
def zSx33 : zSm := (67, 2, zTx33, zXx33, zMx33)
def zn33_0 : zNd := (67, 0, zTx33, [], .ofNat 0, [])
def zNx33 : List zNd := [zn33_0]
def zEx33 : List zSm := []
theorem ze33 : ∀ q ∈ zEx33, SmOk LL q := fun _ h => absurd h List.not_mem_nil
def zYx33 : List (Nat × Nat) := []
def zQx33 : List zSp := []
theorem zK33 : zcks LL TTl zMx33 zEx33 zYx33 zNx33 zXx33 zQx33 1 100000 zNx33 = true := by decide +kernel
theorem zO33 : SmOk LL zSx33 := sm_ok (D := 1) (fu := 100000) (SP := zQx33) (NP := zYx33) (ND := zNx33) LL_1 TTl_ok ze33 (zcks_ok zK33) (c := .ofNat 0) rfl List.mem_cons_self
/-- party -/
def zMx34 : List Nat := [0]
def zTx34 : zS := ([(0, (2, 0, .ofNat 0)), (1, (0, 2, .ofNat 0)), (2, (0, 3, .ofNat 0))], [], [], [(0, .ofNat 0, .ofNat 160), (2, .negSucc 2147483647, .ofNat 2147483647), (3, .negSucc 2147483647, .ofNat 2147483647)], [], 4)
def zXx34 : zS := ([], [(0, 2, .ofNat 0)], [], [(2, .negSucc 2147483647, .ofNat 2147483647)], [], 3)
def zSx34 : zSm := (68, 3, zTx34, zXx34, zMx34)
def zn34_0 : zNd := (68, 0, zTx34, [], .ofNat 0, [])
def zNx34 : List zNd := [zn34_0]
def zEx34 : List zSm := [zSx2, zSx3, zSx4]
theorem ze34 : ∀ q ∈ zEx34, SmOk LL q := List.forall_mem_cons.mpr ⟨zO2, List.forall_mem_cons.mpr ⟨zO3, List.forall_mem_cons.mpr ⟨zO4, fun _ h => absurd h List.not_mem_nil⟩⟩⟩
def zYx34 : List (Nat × Nat) := []
def zQx34 : List zSp := []
theorem zK34 : zcks LL TTl zMx34 zEx34 zYx34 zNx34 zXx34 zQx34 2 100000 zNx34 = true := by decide +kernel
theorem zO34 : SmOk LL zSx34 := sm_ok (D := 2) (fu := 100000) (SP := zQx34) (NP := zYx34) (ND := zNx34) LL_1 TTl_ok ze34 (zcks_ok zK34) (c := .ofNat 0) rfl List.mem_cons_self
/-- worth -/
def zMx35 : List Nat := [0]
def zTx35 : zS := ([(0, (2, 0, .ofNat 0)), (1, (0, 2, .ofNat 0)), (2, (0, 3, .ofNat 0))], [], [], [(0, .ofNat 0, .ofNat 160), (2, .negSucc 2147483647, .ofNat 2147483647), (3, .negSucc 2147483647, .ofNat 2147483647)], [], 4)
def zXx35 : zS := ([], [(0, 2, .ofNat 0)], [], [(2, .negSucc 2147483647, .ofNat 2147483647)], [], 3)
def zSx35 : zSm := (69, 2, zTx35, zXx35, zMx35)
def zn35_0 : zNd := (69, 0, zTx35, [], .ofNat 0, [])
def zNx35 : List zNd := [zn35_0]
def zEx35 : List zSm := []
theorem ze35 : ∀ q ∈ zEx35, SmOk LL q := fun _ h => absurd h List.not_mem_nil
def zYx35 : List (Nat × Nat) := []
def zQx35 : List zSp := []
theorem zK35 : zcks LL TTl zMx35 zEx35 zYx35 zNx35 zXx35 zQx35 1 100000 zNx35 = true := by decide +kernel
theorem zO35 : SmOk LL zSx35 := sm_ok (D := 1) (fu := 100000) (SP := zQx35) (NP := zYx35) (ND := zNx35) LL_1 TTl_ok ze35 (zcks_ok zK35) (c := .ofNat 0) rfl List.mem_cons_self
/-- turn -/
def zMx36 : List Nat := [0]
def zTx36 : zS := ([(0, (2, 0, .ofNat 0)), (1, (0, 2, .ofNat 0))], [], [], [(0, .ofNat 0, .ofNat 160), (2, .negSucc 2147483647, .ofNat 2147483647)], [], 3)
def zXx36 : zS := ([], [(0, 2, .ofNat 0)], [], [(2, .negSucc 2147483647, .ofNat 2147483647)], [], 3)
def zSx36 : zSm := (70, 2, zTx36, zXx36, zMx36)
def zn36_0 : zNd := (70, 0, zTx36, [], .ofNat 0, [])
def zNx36 : List zNd := [zn36_0]
def zEx36 : List zSm := []
theorem ze36 : ∀ q ∈ zEx36, SmOk LL q := fun _ h => absurd h List.not_mem_nil
def zYx36 : List (Nat × Nat) := []
def zQx36 : List zSp := []
theorem zK36 : zcks LL TTl zMx36 zEx36 zYx36 zNx36 zXx36 zQx36 1 100000 zNx36 = true := by decide +kernel
theorem zO36 : SmOk LL zSx36 := sm_ok (D := 1) (fu := 100000) (SP := zQx36) (NP := zYx36) (ND := zNx36) LL_1 TTl_ok ze36 (zcks_ok zK36) (c := .ofNat 0) rfl List.mem_cons_self
/-- rates -/
def zMx37 : List Nat := [0, 4, 5, 6, 7, 8, 9, 10, 11, 12, 13, 24, 26, 27, 28, 29, 30, 31, 32, 33, 34, 35, 36, 37, 38, 39, 40, 41, 42, 43, 44, 45, 46, 47, 48, 49, 50, 51, 52, 53, 54, 55, 56, 57, 58, 59, 60, 61, 62, 63, 64, 65, 66, 67, 68, 69, 70, 71, 72, 73, 74, 75, 76, 77, 78, 79, 80, 81, 82, 83, 84, 85]
def zTx37 : zS := ([(0, (2, 0, .ofNat 0)), (1, (0, 2, .ofNat 0)), (2, (0, 3, .ofNat 0)), (3, (0, 4, .ofNat 0))], [], [], [(0, .ofNat 0, .ofNat 160), (2, .negSucc 2147483647, .ofNat 2147483647), (3, .negSucc 2147483647, .ofNat 2147483647), (4, .negSucc 2147483647, .ofNat 2147483647)], [], 5)
def zXx37 : zS := ([], [(0, 2, .ofNat 0)], [], [(2, .negSucc 2147483647, .ofNat 2147483647)], [], 3)
def zSx37 : zSm := (71, 6, zTx37, zXx37, zMx37)
def zn37_0 : zNd := (71, 0, zTx37, [], .ofNat 0, [])
def zNx37 : List zNd := [zn37_0]
def zEx37 : List zSm := [zSx6]
theorem ze37 : ∀ q ∈ zEx37, SmOk LL q := List.forall_mem_cons.mpr ⟨zO6, fun _ h => absurd h List.not_mem_nil⟩
def zYx37 : List (Nat × Nat) := []
def zQx37 : List zSp := []
theorem zK37 : zcks LL TTl zMx37 zEx37 zYx37 zNx37 zXx37 zQx37 5 100000 zNx37 = true := by decide +kernel
theorem zO37 : SmOk LL zSx37 := sm_ok (D := 5) (fu := 100000) (SP := zQx37) (NP := zYx37) (ND := zNx37) LL_1 TTl_ok ze37 (zcks_ok zK37) (c := .ofNat 0) rfl List.mem_cons_self
/-- strength -/
def zMx38 : List Nat := [0, 4, 5, 6, 7, 8, 9, 10, 11, 12, 13, 24, 26, 27, 28, 29, 30, 31, 32, 33, 34, 35, 36, 37, 38, 39, 40, 41, 42, 43, 44, 45, 46, 47, 48, 49, 50, 51, 52, 53, 54, 55, 56, 57, 58, 59, 60, 61, 62, 63, 64, 65, 66, 67, 68, 69, 70, 71, 72, 73, 74, 75, 76, 77, 78, 79, 80, 81, 82, 83, 84, 85]
def zTx38 : zS := ([(0, (2, 0, .ofNat 0)), (1, (0, 2, .ofNat 0)), (2, (0, 3, .ofNat 0))], [], [], [(0, .ofNat 0, .ofNat 160), (2, .negSucc 2147483647, .ofNat 2147483647), (3, .negSucc 2147483647, .ofNat 2147483647)], [], 4)
def zXx38 : zS := ([], [(0, 2, .ofNat 0)], [], [(2, .negSucc 2147483647, .ofNat 2147483647)], [], 3)
def zSx38 : zSm := (72, 6, zTx38, zXx38, zMx38)
def zn38_0 : zNd := (72, 0, zTx38, [], .ofNat 0, [])
def zNx38 : List zNd := [zn38_0]
def zEx38 : List zSm := [zSx6]
theorem ze38 : ∀ q ∈ zEx38, SmOk LL q := List.forall_mem_cons.mpr ⟨zO6, fun _ h => absurd h List.not_mem_nil⟩
def zYx38 : List (Nat × Nat) := []
def zQx38 : List zSp := []
theorem zK38 : zcks LL TTl zMx38 zEx38 zYx38 zNx38 zXx38 zQx38 5 100000 zNx38 = true := by decide +kernel
theorem zO38 : SmOk LL zSx38 := sm_ok (D := 5) (fu := 100000) (SP := zQx38) (NP := zYx38) (ND := zNx38) LL_1 TTl_ok ze38 (zcks_ok zK38) (c := .ofNat 0) rfl List.mem_cons_self
/-- rule -/
def zMx39 : List Nat := [0, 4, 5, 6, 7, 8, 9, 10, 11, 12, 13, 24, 26, 27, 28, 29, 30, 31, 32, 33, 34, 35, 36, 37, 38, 39, 40, 41, 42, 43, 44, 45, 46, 47, 48, 49, 50, 51, 52, 53, 54, 55, 56, 57, 58, 59, 60, 61, 62, 63, 64, 65, 66, 67, 68, 69, 70, 71, 72, 73, 74, 75, 76, 77, 78, 79, 80, 81, 82, 83, 84, 85]
def zTx39 : zS := ([(0, (2, 0, .ofNat 0)), (1, (0, 2, .ofNat 0))], [], [], [(0, .ofNat 0, .ofNat 160), (2, .negSucc 2147483647, .ofNat 2147483647)], [], 3)
def zXx39 : zS := ([], [(0, 2, .ofNat 0)], [], [(2, .negSucc 2147483647, .ofNat 2147483647)], [], 3)
def zSx39 : zSm := (73, 6, zTx39, zXx39, zMx39)
def zn39_0 : zNd := (73, 0, zTx39, [], .ofNat 0, [])
def zNx39 : List zNd := [zn39_0]
def zEx39 : List zSm := [zSx6]
theorem ze39 : ∀ q ∈ zEx39, SmOk LL q := List.forall_mem_cons.mpr ⟨zO6, fun _ h => absurd h List.not_mem_nil⟩
def zYx39 : List (Nat × Nat) := []
def zQx39 : List zSp := []
theorem zK39 : zcks LL TTl zMx39 zEx39 zYx39 zNx39 zXx39 zQx39 5 100000 zNx39 = true := by decide +kernel
theorem zO39 : SmOk LL zSx39 := sm_ok (D := 5) (fu := 100000) (SP := zQx39) (NP := zYx39) (ND := zNx39) LL_1 TTl_ok ze39 (zcks_ok zK39) (c := .ofNat 0) rfl List.mem_cons_self
/-- binds -/
def zMx40 : List Nat := [0, 4, 5, 6, 7, 8, 9, 10, 11, 12, 13, 24, 26, 27, 28, 29, 30, 31, 32, 33, 34, 35, 36, 37, 38, 39, 40, 41, 42, 43, 44, 45, 46, 47, 48, 49, 50, 51, 52, 53, 54, 55, 56, 57, 58, 59, 60, 61, 62, 63, 64, 65, 66, 67, 68, 69, 70, 71, 72, 73, 74, 75, 76, 77, 78, 79, 80, 81, 82, 83, 84, 85]
def zTx40 : zS := ([(0, (2, 0, .ofNat 0)), (1, (0, 2, .ofNat 0)), (2, (0, 3, .ofNat 0))], [], [], [(0, .ofNat 0, .ofNat 160), (2, .negSucc 2147483647, .ofNat 2147483647), (3, .negSucc 2147483647, .ofNat 2147483647)], [], 4)
def zXx40 : zS := ([], [(0, 2, .ofNat 0)], [], [(2, .negSucc 2, .ofNat 6)], [], 3)
def zSx40 : zSm := (74, 6, zTx40, zXx40, zMx40)
def zn40_0 : zNd := (74, 0, zTx40, [], .ofNat 82, [])
def zn40_1 : zNd := (15, 17, ([(0, (2, 4, .ofNat 0)), (1, (0, 2, .ofNat 0)), (2, (0, 3, .ofNat 0)), (3, (0, 4, .ofNat 0))], [], [(4, .inr (.inr (.inr (.inr (0, [.inr (0, 5, .ofNat 0), zp 5, .inr (0, 6, .ofNat 0), zp 6, zp 7, zi, zi, zi, zp 8, zp 9, zp 10, zp 11, zi, zp 12, zp 13, zi, zi, zi, zi])))))], [(0, .ofNat 0, .ofNat 160), (2, .ofNat 0, .ofNat 5), (3, .ofNat 0, .ofNat 5), (4, .ofNat 0, .ofNat 4), (5, .ofNat 1, .ofNat 6), (6, .ofNat 0, .ofNat 4)], [], 7), [(74, 57, [(0, (2, 0, .ofNat 0)), (1, (0, 2, .ofNat 0)), (2, (0, 3, .ofNat 0))], [])], .ofNat 80, [(.negSucc 1, 4)])
def zn40_2 : zNd := (16, 12, ([(0, (2, 4, .ofNat 0)), (1, (0, 2, .ofNat 0)), (2, (0, 3, .ofNat 0))], [], [(4, .inr (.inr (.inr (.inr (0, [.inr (0, 6, .ofNat 0), zp 5, .inr (0, 7, .ofNat 0), zp 6, zp 7, zi, zi, zi, zp 8, zp 9, zp 10, zp 11, zi, zp 12, zp 13, zi, zi, zi, zi])))))], [(0, .ofNat 0, .ofNat 160), (2, .ofNat 0, .ofNat 5), (3, .ofNat 0, .ofNat 5), (4, .ofNat 0, .ofNat 5), (5, .ofNat 0, .ofNat 4), (6, .ofNat 0, .ofNat 5), (7, .ofNat 0, .ofNat 4)], [], 8), [(15, 60, [(0, (2, 4, .ofNat 0)), (1, (0, 4, .ofNat 0)), (2, (0, 2, .ofNat 0)), (3, (0, 5, .ofNat 0))], []), (74, 57, [(0, (2, 0, .ofNat 0)), (1, (0, 4, .ofNat 0)), (2, (0, 2, .ofNat 0))], [])], .ofNat 70, [(.negSucc 11, 3)])
def zn40_3 : zNd := (16, 36, ([(0, (2, 4, .ofNat 0)), (1, (0, 2, .ofNat 0)), (2, (0, 3, .ofNat 0)), (3, (0, 4, .ofNat 0))], [], [(4, .inr (.inr (.inr (.inr (0, [.inr (0, 7, .ofNat 0), zp 5, .inr (0, 8, .ofNat 0), zp 6, zp 7, zi, zi, zi, zp 8, zp 9, zp 10, zp 11, zi, zp 12, zp 13, zi, zi, zi, zi])))))], [(0, .ofNat 0, .ofNat 160), (2, .ofNat 0, .ofNat 5), (3, .ofNat 0, .ofNat 4), (4, .ofNat 0, .ofNat 4), (5, .ofNat 0, .ofNat 5), (6, .ofNat 0, .ofNat 4), (7, .ofNat 1, .ofNat 5), (8, .ofNat 0, .ofNat 4)], [], 9), [(15, 60, [(0, (2, 4, .ofNat 0)), (1, (0, 5, .ofNat 0)), (2, (0, 2, .ofNat 0)), (3, (0, 6, .ofNat 0))], []), (74, 57, [(0, (2, 0, .ofNat 0)), (1, (0, 5, .ofNat 0)), (2, (0, 2, .ofNat 0))], [])], .ofNat 68, [(.negSucc 11, 3), (.negSucc 1, 4)])
def zNx40 : List zNd := [zn40_0, zn40_1, zn40_2, zn40_3]
def zEx40 : List zSm := [zSx6]
theorem ze40 : ∀ q ∈ zEx40, SmOk LL q := List.forall_mem_cons.mpr ⟨zO6, fun _ h => absurd h List.not_mem_nil⟩
def zYx40 : List (Nat × Nat) := [(15, 17), (16, 12), (16, 36)]
def zQx40 : List zSp := []
theorem zK40 : zcks LL TTl zMx40 zEx40 zYx40 zNx40 zXx40 zQx40 5 100000 zNx40 = true := by decide +kernel
theorem zO40 : SmOk LL zSx40 := sm_ok (D := 5) (fu := 100000) (SP := zQx40) (NP := zYx40) (ND := zNx40) LL_1 TTl_ok ze40 (zcks_ok zK40) (c := .ofNat 82) rfl List.mem_cons_self
/-- joins -/
def zMx41 : List Nat := [0, 4, 5, 6, 7, 8, 9, 10, 11, 12, 13, 24, 26, 27, 28, 29, 30, 31, 32, 33, 34, 35, 36, 37, 38, 39, 40, 41, 42, 43, 44, 45, 46, 47, 48, 49, 50, 51, 52, 53, 54, 55, 56, 57, 58, 59, 60, 61, 62, 63, 64, 65, 66, 67, 68, 69, 70, 71, 72, 73, 74, 75, 76, 77, 78, 79, 80, 81, 82, 83, 84, 85]
def zTx41 : zS := ([(0, (2, 0, .ofNat 0)), (1, (0, 2, .ofNat 0)), (2, (0, 3, .ofNat 0))], [], [], [(0, .ofNat 0, .ofNat 160), (2, .negSucc 2147483647, .ofNat 2147483647), (3, .negSucc 2147483647, .ofNat 2147483647)], [], 4)
def zXx41 : zS := ([], [(0, 2, .ofNat 0)], [], [(2, .negSucc 2, .ofNat 4)], [], 3)
def zSx41 : zSm := (75, 6, zTx41, zXx41, zMx41)
def zn41_0 : zNd := (75, 0, zTx41, [], .ofNat 78, [])
def zn41_1 : zNd := (17, 27, ([(0, (2, 4, .ofNat 0)), (1, (0, 2, .ofNat 0)), (2, (0, 3, .ofNat 0)), (3, (0, 4, .ofNat 0))], [], [(4, .inr (.inr (.inr (.inr (0, [.inr (0, 5, .ofNat 0), zp 5, .inr (0, 6, .ofNat 0), zp 6, zp 7, zi, zi, zi, zp 8, zp 9, zp 10, zp 11, zi, zp 12, zp 13, zi, zi, zi, zi])))))], [(0, .ofNat 0, .ofNat 160), (2, .ofNat 0, .ofNat 3), (3, .ofNat 0, .ofNat 3), (4, .ofNat 0, .ofNat 6), (5, .ofNat 0, .ofNat 6), (6, .ofNat 1, .ofNat 4)], [], 7), [(75, 57, [(0, (2, 0, .ofNat 0)), (1, (0, 2, .ofNat 0)), (2, (0, 3, .ofNat 0))], [])], .ofNat 76, [(.negSucc 1, 4)])
def zn41_2 : zNd := (18, 12, ([(0, (2, 4, .ofNat 0)), (1, (0, 2, .ofNat 0)), (2, (0, 3, .ofNat 0))], [], [(4, .inr (.inr (.inr (.inr (0, [.inr (0, 6, .ofNat 0), zp 5, .inr (0, 7, .ofNat 0), zp 6, zp 7, zi, zi, zi, zp 8, zp 9, zp 10, zp 11, zi, zp 12, zp 13, zi, zi, zi, zi])))))], [(0, .ofNat 0, .ofNat 160), (2, .ofNat 0, .ofNat 3), (3, .ofNat 0, .ofNat 3), (4, .ofNat 0, .ofNat 3), (5, .ofNat 0, .ofNat 6), (6, .ofNat 0, .ofNat 6), (7, .ofNat 0, .ofNat 3)], [], 8), [(17, 86, [(0, (2, 4, .ofNat 0)), (1, (0, 4, .ofNat 0)), (2, (0, 2, .ofNat 0)), (3, (0, 5, .ofNat 0))], []), (75, 57, [(0, (2, 0, .ofNat 0)), (1, (0, 4, .ofNat 0)), (2, (0, 2, .ofNat 0))], [])], .ofNat 62, [(.negSucc 15, 3)])
def zn41_3 : zNd := (18, 36, ([(0, (2, 4, .ofNat 0)), (1, (0, 2, .ofNat 0)), (2, (0, 3, .ofNat 0)), (3, (0, 4, .ofNat 0))], [], [(4, .inr (.inr (.inr (.inr (0, [.inr (0, 7, .ofNat 0), zp 5, .inr (0, 8, .ofNat 0), zp 6, zp 7, zi, zi, zi, zp 8, zp 9, zp 10, zp 11, zi, zp 12, zp 13, zi, zi, zi, zi])))))], [(0, .ofNat 0, .ofNat 160), (2, .ofNat 0, .ofNat 3), (3, .ofNat 0, .ofNat 2), (4, .ofNat 0, .ofNat 6), (5, .ofNat 0, .ofNat 3), (6, .ofNat 0, .ofNat 6), (7, .ofNat 0, .ofNat 6), (8, .ofNat 1, .ofNat 3)], [], 9), [(17, 86, [(0, (2, 4, .ofNat 0)), (1, (0, 5, .ofNat 0)), (2, (0, 2, .ofNat 0)), (3, (0, 6, .ofNat 0))], []), (75, 57, [(0, (2, 0, .ofNat 0)), (1, (0, 5, .ofNat 0)), (2, (0, 2, .ofNat 0))], [])], .ofNat 60, [(.negSucc 15, 3), (.negSucc 1, 4)])
def zNx41 : List zNd := [zn41_0, zn41_1, zn41_2, zn41_3]
def zEx41 : List zSm := [zSx6]
theorem ze41 : ∀ q ∈ zEx41, SmOk LL q := List.forall_mem_cons.mpr ⟨zO6, fun _ h => absurd h List.not_mem_nil⟩
def zYx41 : List (Nat × Nat) := [(17, 27), (18, 12), (18, 36)]
def zQx41 : List zSp := []
theorem zK41 : zcks LL TTl zMx41 zEx41 zYx41 zNx41 zXx41 zQx41 5 100000 zNx41 = true := by decide +kernel
theorem zO41 : SmOk LL zSx41 := sm_ok (D := 5) (fu := 100000) (SP := zQx41) (NP := zYx41) (ND := zNx41) LL_1 TTl_ok ze41 (zcks_ok zK41) (c := .ofNat 78) rfl List.mem_cons_self
/-- takes -/
def zMx42 : List Nat := [0, 4, 5, 6, 7, 8, 9, 10, 11, 12, 13, 24, 26, 27, 28, 29, 30, 31, 32, 33, 34, 35, 36, 37, 38, 39, 40, 41, 42, 43, 44, 45, 46, 47, 48, 49, 50, 51, 52, 53, 54, 55, 56, 57, 58, 59, 60, 61, 62, 63, 64, 65, 66, 67, 68, 69, 70, 71, 72, 73, 74, 75, 76, 77, 78, 79, 80, 81, 82, 83, 84, 85]
def zTx42 : zS := ([(0, (2, 0, .ofNat 0)), (1, (0, 2, .ofNat 0))], [], [], [(0, .ofNat 0, .ofNat 160), (2, .negSucc 2147483647, .ofNat 2147483647)], [], 3)
def zXx42 : zS := ([], [(0, 2, .ofNat 0)], [], [(2, .negSucc 2147483647, .ofNat 2147483647)], [], 3)
def zSx42 : zSm := (76, 3, zTx42, zXx42, zMx42)
def zn42_0 : zNd := (76, 0, zTx42, [], .ofNat 0, [])
def zNx42 : List zNd := [zn42_0]
def zEx42 : List zSm := []
theorem ze42 : ∀ q ∈ zEx42, SmOk LL q := fun _ h => absurd h List.not_mem_nil
def zYx42 : List (Nat × Nat) := []
def zQx42 : List zSp := []
theorem zK42 : zcks LL TTl zMx42 zEx42 zYx42 zNx42 zXx42 zQx42 2 100000 zNx42 = true := by decide +kernel
theorem zO42 : SmOk LL zSx42 := sm_ok (D := 2) (fu := 100000) (SP := zQx42) (NP := zYx42) (ND := zNx42) LL_1 TTl_ok ze42 (zcks_ok zK42) (c := .ofNat 0) rfl List.mem_cons_self
/-- vetoes -/
def zMx43 : List Nat := [0, 4, 5, 6, 7, 8, 9, 10, 11, 12, 13, 24, 26, 27, 28, 29, 30, 31, 32, 33, 34, 35, 36, 37, 38, 39, 40, 41, 42, 43, 44, 45, 46, 47, 48, 49, 50, 51, 52, 53, 54, 55, 56, 57, 58, 59, 60, 61, 62, 63, 64, 65, 66, 67, 68, 69, 70, 71, 72, 73, 74, 75, 76, 77, 78, 79, 80, 81, 82, 83, 84, 85]
def zTx43 : zS := ([(0, (2, 0, .ofNat 0)), (1, (0, 2, .ofNat 0))], [], [], [(0, .ofNat 0, .ofNat 160), (2, .negSucc 2147483647, .ofNat 2147483647)], [], 3)
def zXx43 : zS := ([], [(0, 2, .ofNat 0)], [], [(2, .negSucc 2, .ofNat 5)], [], 3)
def zSx43 : zSm := (77, 3, zTx43, zXx43, zMx43)
def zn43_0 : zNd := (77, 0, zTx43, [], .ofNat 0, [])
def zNx43 : List zNd := [zn43_0]
def zEx43 : List zSm := [zSx1]
theorem ze43 : ∀ q ∈ zEx43, SmOk LL q := List.forall_mem_cons.mpr ⟨zO1, fun _ h => absurd h List.not_mem_nil⟩
def zYx43 : List (Nat × Nat) := []
def zQx43 : List zSp := []
theorem zK43 : zcks LL TTl zMx43 zEx43 zYx43 zNx43 zXx43 zQx43 2 100000 zNx43 = true := by decide +kernel
theorem zO43 : SmOk LL zSx43 := sm_ok (D := 2) (fu := 100000) (SP := zQx43) (NP := zYx43) (ND := zNx43) LL_1 TTl_ok ze43 (zcks_ok zK43) (c := .ofNat 0) rfl List.mem_cons_self
/-- foreseen -/
def zMx44 : List Nat := [0, 88]
def zTx44 : zS := ([(0, (2, 0, .ofNat 0)), (1, (0, 2, .ofNat 0))], [], [], [(0, .ofNat 0, .ofNat 160), (2, .negSucc 2147483647, .ofNat 2147483647)], [], 3)
def zXx44 : zS := ([], [(0, 2, .ofNat 0)], [], [(2, .negSucc 2147483647, .ofNat 2147483647)], [], 3)
def zSx44 : zSm := (78, 26, zTx44, zXx44, zMx44)
def zn44_0 : zNd := (78, 0, zTx44, [], .ofNat 0, [])
def zNx44 : List zNd := [zn44_0]
def zEx44 : List zSm := [zSx1, zSx2, zSx29]
theorem ze44 : ∀ q ∈ zEx44, SmOk LL q := List.forall_mem_cons.mpr ⟨zO1, List.forall_mem_cons.mpr ⟨zO2, List.forall_mem_cons.mpr ⟨zO29, fun _ h => absurd h List.not_mem_nil⟩⟩⟩
def zYx44 : List (Nat × Nat) := []
def zQx44 : List zSp := []
theorem zK44 : zcks LL TTl zMx44 zEx44 zYx44 zNx44 zXx44 zQx44 25 100000 zNx44 = true := by decide +kernel
theorem zO44 : SmOk LL zSx44 := sm_ok (D := 25) (fu := 100000) (SP := zQx44) (NP := zYx44) (ND := zNx44) LL_1 TTl_ok ze44 (zcks_ok zK44) (c := .ofNat 0) rfl List.mem_cons_self
/-- best -/
def zMx45 : List Nat := [0, 88]
def zTx45 : zS := ([(0, (2, 0, .ofNat 0))], [], [], [(0, .ofNat 0, .ofNat 160)], [], 2)
def zXx45 : zS := ([], [(0, 2, .ofNat 0)], [], [(2, .negSucc 0, .ofNat 6)], [], 3)
def zSx45 : zSm := (79, 26, zTx45, zXx45, zMx45)
def zn45_0 : zNd := (79, 0, zTx45, [], .ofNat 0, [])
def zNx45 : List zNd := [zn45_0]
def zEx45 : List zSm := [zSx1, zSx29]
theorem ze45 : ∀ q ∈ zEx45, SmOk LL q := List.forall_mem_cons.mpr ⟨zO1, List.forall_mem_cons.mpr ⟨zO29, fun _ h => absurd h List.not_mem_nil⟩⟩
def zYx45 : List (Nat × Nat) := []
def zQx45 : List zSp := []
theorem zK45 : zcks LL TTl zMx45 zEx45 zYx45 zNx45 zXx45 zQx45 25 100000 zNx45 = true := by decide +kernel
theorem zO45 : SmOk LL zSx45 := sm_ok (D := 25) (fu := 100000) (SP := zQx45) (NP := zYx45) (ND := zNx45) LL_1 TTl_ok ze45 (zcks_ok zK45) (c := .ofNat 0) rfl List.mem_cons_self
/-- against -/
def zMx46 : List Nat := [0, 88]
def zTx46 : zS := ([(0, (2, 0, .ofNat 0)), (1, (0, 2, .ofNat 0))], [], [], [(0, .ofNat 0, .ofNat 160), (2, .negSucc 2147483647, .ofNat 2147483647)], [], 3)
def zXx46 : zS := ([], [(0, 2, .ofNat 0)], [], [(2, .negSucc 2, .ofNat 6)], [], 3)
def zSx46 : zSm := (80, 25, zTx46, zXx46, zMx46)
def zn46_0 : zNd := (80, 0, zTx46, [], .ofNat 0, [])
def zNx46 : List zNd := [zn46_0]
def zEx46 : List zSm := [zSx1, zSx28]
theorem ze46 : ∀ q ∈ zEx46, SmOk LL q := List.forall_mem_cons.mpr ⟨zO1, List.forall_mem_cons.mpr ⟨zO28, fun _ h => absurd h List.not_mem_nil⟩⟩
def zYx46 : List (Nat × Nat) := []
def zQx46 : List zSp := []
theorem zK46 : zcks LL TTl zMx46 zEx46 zYx46 zNx46 zXx46 zQx46 24 100000 zNx46 = true := by decide +kernel
theorem zO46 : SmOk LL zSx46 := sm_ok (D := 24) (fu := 100000) (SP := zQx46) (NP := zYx46) (ND := zNx46) LL_1 TTl_ok ze46 (zcks_ok zK46) (c := .ofNat 0) rfl List.mem_cons_self
/-- taking -/
def zMx47 : List Nat := [0, 88]
def zTx47 : zS := ([(0, (2, 0, .ofNat 0)), (1, (0, 2, .ofNat 0)), (2, (0, 3, .ofNat 0))], [], [], [(0, .ofNat 0, .ofNat 160), (2, .negSucc 2147483647, .ofNat 2147483647), (3, .negSucc 2147483647, .ofNat 2147483647)], [], 4)
def zXx47 : zS := ([], [(0, 2, .ofNat 0)], [], [(2, .negSucc 2147483647, .ofNat 2147483647)], [], 3)
def zSx47 : zSm := (81, 25, zTx47, zXx47, zMx47)
def zn47_0 : zNd := (81, 0, zTx47, [], .ofNat 0, [])
def zNx47 : List zNd := [zn47_0]
def zEx47 : List zSm := [zSx1, zSx2, zSx28]
theorem ze47 : ∀ q ∈ zEx47, SmOk LL q := List.forall_mem_cons.mpr ⟨zO1, List.forall_mem_cons.mpr ⟨zO2, List.forall_mem_cons.mpr ⟨zO28, fun _ h => absurd h List.not_mem_nil⟩⟩⟩
def zYx47 : List (Nat × Nat) := []
def zQx47 : List zSp := []
theorem zK47 : zcks LL TTl zMx47 zEx47 zYx47 zNx47 zXx47 zQx47 24 100000 zNx47 = true := by decide +kernel
theorem zO47 : SmOk LL zSx47 := sm_ok (D := 24) (fu := 100000) (SP := zQx47) (NP := zYx47) (ND := zNx47) LL_1 TTl_ok ze47 (zcks_ok zK47) (c := .ofNat 0) rfl List.mem_cons_self
/-- course -/
def zMx48 : List Nat := [0, 88]
def zTx48 : zS := ([(0, (2, 0, .ofNat 0)), (1, (0, 2, .ofNat 0))], [], [], [(0, .ofNat 0, .ofNat 160), (2, .negSucc 2147483647, .ofNat 2147483647)], [], 3)
def zXx48 : zS := ([], [(0, 2, .ofNat 0)], [], [(2, .negSucc 1, .ofNat 67)], [], 3)
def zSx48 : zSm := (82, 26, zTx48, zXx48, zMx48)
def zn48_0 : zNd := (82, 0, zTx48, [], .ofNat 0, [])
def zNx48 : List zNd := [zn48_0]
def zEx48 : List zSm := [zSx30]
theorem ze48 : ∀ q ∈ zEx48, SmOk LL q := List.forall_mem_cons.mpr ⟨zO30, fun _ h => absurd h List.not_mem_nil⟩
def zYx48 : List (Nat × Nat) := []
def zQx48 : List zSp := []
theorem zK48 : zcks LL TTl zMx48 zEx48 zYx48 zNx48 zXx48 zQx48 25 100000 zNx48 = true := by decide +kernel
theorem zO48 : SmOk LL zSx48 := sm_ok (D := 25) (fu := 100000) (SP := zQx48) (NP := zYx48) (ND := zNx48) LL_1 TTl_ok ze48 (zcks_ok zK48) (c := .ofNat 0) rfl List.mem_cons_self
/-- sincere -/
def zMx49 : List Nat := [0]
def zTx49 : zS := ([(0, (2, 0, .ofNat 0)), (1, (0, 2, .ofNat 0))], [], [], [(0, .ofNat 0, .ofNat 160), (2, .negSucc 2147483647, .ofNat 2147483647)], [], 3)
def zXx49 : zS := ([], [(0, 2, .ofNat 0)], [], [(2, .negSucc 2147483647, .ofNat 2147483647)], [], 3)
def zSx49 : zSm := (83, 4, zTx49, zXx49, zMx49)
def zn49_0 : zNd := (83, 0, zTx49, [], .ofNat 8589934592, [])
def zn49_1 : zNd := (29, 27, ([(0, (2, 4, .ofNat 0)), (1, (0, 6, .ofNat 0)), (2, (0, 5, .ofNat 0)), (3, (0, 4, .ofNat 0)), (4, (0, 3, .ofNat 0)), (5, (0, 2, .ofNat 0))], [], [], [(0, .ofNat 0, .ofNat 160), (2, .negSucc 2147483647, .ofNat 2147483647), (3, .negSucc 2147483647, .ofNat 2147483647), (4, .negSucc 2147483647, .ofNat 2147483647), (5, .negSucc 2147483647, .ofNat 2147483647), (6, .ofNat 0, .ofNat 3)], [], 7), [(83, 24, [(0, (2, 0, .ofNat 0)), (1, (0, 6, .ofNat 0))], [])], .ofNat 4294967294, [(.negSucc 1, 2)])
def zNx49 : List zNd := [zn49_0, zn49_1]
def zEx49 : List zSm := [zSx1, zSx2, zSx5]
theorem ze49 : ∀ q ∈ zEx49, SmOk LL q := List.forall_mem_cons.mpr ⟨zO1, List.forall_mem_cons.mpr ⟨zO2, List.forall_mem_cons.mpr ⟨zO5, fun _ h => absurd h List.not_mem_nil⟩⟩⟩
def zYx49 : List (Nat × Nat) := [(29, 27)]
def zQx49 : List zSp := []
theorem zK49 : zcks LL TTl zMx49 zEx49 zYx49 zNx49 zXx49 zQx49 3 100000 zNx49 = true := by decide +kernel
theorem zO49 : SmOk LL zSx49 := sm_ok (D := 3) (fu := 100000) (SP := zQx49) (NP := zYx49) (ND := zNx49) LL_1 TTl_ok ze49 (zcks_ok zK49) (c := .ofNat 8589934592) rfl List.mem_cons_self
/-- without -/
def zMx50 : List Nat := [0, 88]
def zTx50 : zS := ([(0, (2, 0, .ofNat 0)), (1, (0, 2, .ofNat 0)), (2, (0, 3, .ofNat 0))], [], [], [(0, .ofNat 0, .ofNat 160), (2, .negSucc 2147483647, .ofNat 2147483647), (3, .negSucc 2147483647, .ofNat 2147483647)], [], 4)
def zXx50 : zS := ([], [(0, 2, .ofNat 0)], [], [(2, .negSucc 2147483647, .ofNat 2147483647)], [], 3)
def zSx50 : zSm := (84, 26, zTx50, zXx50, zMx50)
def zn50_0 : zNd := (84, 0, zTx50, [], .ofNat 0, [])
def zNx50 : List zNd := [zn50_0]
def zEx50 : List zSm := [zSx1, zSx2, zSx29]
theorem ze50 : ∀ q ∈ zEx50, SmOk LL q := List.forall_mem_cons.mpr ⟨zO1, List.forall_mem_cons.mpr ⟨zO2, List.forall_mem_cons.mpr ⟨zO29, fun _ h => absurd h List.not_mem_nil⟩⟩⟩
def zYx50 : List (Nat × Nat) := []
def zQx50 : List zSp := []
theorem zK50 : zcks LL TTl zMx50 zEx50 zYx50 zNx50 zXx50 zQx50 25 100000 zNx50 = true := by decide +kernel
theorem zO50 : SmOk LL zSx50 := sm_ok (D := 25) (fu := 100000) (SP := zQx50) (NP := zYx50) (ND := zNx50) LL_1 TTl_ok ze50 (zcks_ok zK50) (c := .ofNat 0) rfl List.mem_cons_self
/-- back -/
def zMx51 : List Nat := [0, 4, 5, 6, 7, 8, 9, 10, 11, 12, 13, 24]
def zTx51 : zS := ([(0, (2, 0, .ofNat 0))], [], [], [(0, .ofNat 0, .ofNat 160)], [], 2)
def zXx51 : zS := ([], [(0, 2, .ofNat 0)], [], [(2, .negSucc 2147483647, .ofNat 2147483647)], [], 3)
def zSx51 : zSm := (85, 3, zTx51, zXx51, zMx51)
def zn51_0 : zNd := (85, 0, zTx51, [], .ofNat 0, [])
def zNx51 : List zNd := [zn51_0]
def zEx51 : List zSm := []
theorem ze51 : ∀ q ∈ zEx51, SmOk LL q := fun _ h => absurd h List.not_mem_nil
def zYx51 : List (Nat × Nat) := []
def zQx51 : List zSp := []
theorem zK51 : zcks LL TTl zMx51 zEx51 zYx51 zNx51 zXx51 zQx51 2 100000 zNx51 = true := by decide +kernel
theorem zO51 : SmOk LL zSx51 := sm_ok (D := 2) (fu := 100000) (SP := zQx51) (NP := zYx51) (ND := zNx51) LL_1 TTl_ok ze51 (zcks_ok zK51) (c := .ofNat 0) rfl List.mem_cons_self
/-- told -/
def zMx52 : List Nat := [0]
def zTx52 : zS := ([(0, (2, 0, .ofNat 0)), (1, (0, 2, .ofNat 0))], [], [], [(0, .ofNat 0, .ofNat 160), (2, .negSucc 2147483647, .ofNat 2147483647)], [], 3)
def zXx52 : zS := ([], [(0, 2, .ofNat 0)], [], [(2, .negSucc 2147483647, .ofNat 2147483647)], [], 3)
def zSx52 : zSm := (86, 2, zTx52, zXx52, zMx52)
def zn52_0 : zNd := (86, 0, zTx52, [], .ofNat 0, [])
def zNx52 : List zNd := [zn52_0]
def zEx52 : List zSm := []
theorem ze52 : ∀ q ∈ zEx52, SmOk LL q := fun _ h => absurd h List.not_mem_nil
def zYx52 : List (Nat × Nat) := []
def zQx52 : List zSp := []
theorem zK52 : zcks LL TTl zMx52 zEx52 zYx52 zNx52 zXx52 zQx52 1 100000 zNx52 = true := by decide +kernel
theorem zO52 : SmOk LL zSx52 := sm_ok (D := 1) (fu := 100000) (SP := zQx52) (NP := zYx52) (ND := zNx52) LL_1 TTl_ok ze52 (zcks_ok zK52) (c := .ofNat 0) rfl List.mem_cons_self
/-- digestedParty -/
def zMx53 : List Nat := [0, 88]
def zTx53 : zS := ([(0, (2, 0, .ofNat 0)), (1, (1, 2, .ofNat 0)), (3, (0, 3, .ofNat 0))], [], [], [(0, .ofNat 0, .ofNat 160), (2, .negSucc 9223372036854775807, .ofNat 9223372036854775807), (3, .negSucc 2147483647, .ofNat 2147483647)], [], 4)
def zXx53 : zS := ([], [(1, 2, .ofNat 0)], [], [(2, .negSucc 9223372036854775807, .ofNat 9223372036854775807)], [], 3)
def zSx53 : zSm := (88, 27, zTx53, zXx53, zMx53)
def zn53_0 : zNd := (88, 0, zTx53, [], .ofNat 28, [])
def zn53_1 : zNd := (88, 6, ([(0, (2, 0, .ofNat 0)), (1, (1, 2, .ofNat 0)), (3, (0, 3, .ofNat 0)), (4, (1, 4, .ofNat 0)), (6, (0, 5, .ofNat 0))], [], [], [(0, .ofNat 0, .ofNat 160), (2, .negSucc 9223372036854775807, .ofNat 9223372036854775807), (3, .negSucc 2147483647, .ofNat 2147483647), (4, .negSucc 9223372036854775807, .ofNat 9223372036854775807), (5, .ofNat 0, .ofNat 6)], [], 6), [], .ofNat 26, [(.negSucc 1, 5)])
def zn53_2 : zNd := (88, 36, ([(0, (2, 0, .ofNat 0)), (1, (1, 2, .ofNat 0)), (3, (0, 3, .ofNat 0)), (4, (1, 4, .ofNat 0)), (6, (0, 5, .ofNat 0))], [], [], [(0, .ofNat 0, .ofNat 160), (2, .negSucc 9223372036854775807, .ofNat 9223372036854775807), (3, .negSucc 2147483647, .ofNat 2147483647), (4, .negSucc 9223372036854775807, .ofNat 9223372036854775807), (5, .ofNat 0, .ofNat 6)], [], 6), [], .ofNat 12, [(.negSucc 1, 5)])
def zNx53 : List zNd := [zn53_0, zn53_1, zn53_2]
def zEx53 : List zSm := [zSx34, zSx35, zSx44, zSx49]
theorem ze53 : ∀ q ∈ zEx53, SmOk LL q := List.forall_mem_cons.mpr ⟨zO34, List.forall_mem_cons.mpr ⟨zO35, List.forall_mem_cons.mpr ⟨zO44, List.forall_mem_cons.mpr ⟨zO49, fun _ h => absurd h List.not_mem_nil⟩⟩⟩⟩
def zYx53 : List (Nat × Nat) := [(88, 6), (88, 36)]
def zQx53 : List zSp := []
theorem zK53 : zcks LL TTl zMx53 zEx53 zYx53 zNx53 zXx53 zQx53 26 100000 zNx53 = true := by decide +kernel
theorem zO53 : SmOk LL zSx53 := sm_ok (D := 26) (fu := 100000) (SP := zQx53) (NP := zYx53) (ND := zNx53) LL_1 TTl_ok ze53 (zcks_ok zK53) (c := .ofNat 28) rfl List.mem_cons_self
/-- digest -/
def zMx54 : List Nat := [0, 88]
def zTx54 : zS := ([(0, (2, 0, .ofNat 0))], [], [], [(0, .ofNat 0, .ofNat 160)], [], 2)
def zXx54 : zS := ([], [(1, 2, .ofNat 0)], [], [(2, .negSucc 9223372036854775807, .ofNat 9223372036854775807)], [], 3)
def zSx54 : zSm := (87, 28, zTx54, zXx54, zMx54)
def zn54_0 : zNd := (87, 0, zTx54, [], .ofNat 116, [])
def zn54_1 : zNd := (87, 6, ([(0, (2, 0, .ofNat 0)), (1, (1, 2, .ofNat 0)), (3, (0, 3, .ofNat 0))], [], [], [(0, .ofNat 0, .ofNat 160), (2, .negSucc 9223372036854775807, .ofNat 9223372036854775807), (3, .ofNat 0, .ofNat 10)], [], 4), [], .ofNat 114, [(.negSucc 1, 3)])
def zn54_2 : zNd := (87, 30, ([(0, (2, 0, .ofNat 0)), (1, (1, 2, .ofNat 0)), (3, (0, 3, .ofNat 0))], [], [], [(0, .ofNat 0, .ofNat 160), (2, .negSucc 9223372036854775807, .ofNat 9223372036854775807), (3, .ofNat 0, .ofNat 6)], [], 4), [], .ofNat 92, [(.negSucc 11, 3)])
def zn54_3 : zNd := (87, 44, ([(0, (2, 0, .ofNat 0)), (1, (1, 2, .ofNat 0)), (3, (0, 3, .ofNat 0)), (4, (0, 4, .ofNat 0))], [], [], [(0, .ofNat 0, .ofNat 160), (2, .negSucc 9223372036854775807, .ofNat 9223372036854775807), (3, .ofNat 0, .ofNat 5), (4, .ofNat 0, .ofNat 4)], [], 5), [], .ofNat 90, [(.negSucc 11, 3), (.negSucc 1, 4)])
def zn54_4 : zNd := (87, 76, ([(0, (2, 0, .ofNat 0)), (1, (1, 2, .ofNat 0)), (3, (0, 3, .ofNat 0))], [], [], [(0, .ofNat 0, .ofNat 160), (2, .negSucc 9223372036854775807, .ofNat 9223372036854775807), (3, .ofNat 0, .ofNat 4)], [], 4), [], .ofNat 8, [(.negSucc 1, 3)])
def zNx54 : List zNd := [zn54_0, zn54_1, zn54_2, zn54_3, zn54_4]
def zEx54 : List zSm := [zSx33, zSx52, zSx53]
theorem ze54 : ∀ q ∈ zEx54, SmOk LL q := List.forall_mem_cons.mpr ⟨zO33, List.forall_mem_cons.mpr ⟨zO52, List.forall_mem_cons.mpr ⟨zO53, fun _ h => absurd h List.not_mem_nil⟩⟩⟩
def zYx54 : List (Nat × Nat) := [(87, 6), (87, 30), (87, 44), (87, 76)]
def zQx54 : List zSp := []
theorem zK54 : zcks LL TTl zMx54 zEx54 zYx54 zNx54 zXx54 zQx54 27 100000 zNx54 = true := by decide +kernel
theorem zO54 : SmOk LL zSx54 := sm_ok (D := 27) (fu := 100000) (SP := zQx54) (NP := zYx54) (ND := zNx54) LL_1 TTl_ok ze54 (zcks_ok zK54) (c := .ofNat 116) rfl List.mem_cons_self
