/-! the checker on the methods, printed -/
/-- allPosts@14 -/
def zMx0 : List Nat := []
def zTx0 : zS := ([(0, (2, 14, .ofNat 0))], [], [], [(0, .ofNat 0, .ofNat 160)], [], 2)
def zXx0 : zS := ([], [(0, 2, .ofNat 0)], [], [(2, .negSucc 2147483647, .ofNat 2147483647)], [], 3)
def zSx0 : zSm := (10, 1, zTx0, zXx0, zMx0)
def zn0_0 : zNd := (10, 0, zTx0, [], .ofNat 14, [])
def zn0_1 : zNd := (10, 4, ([(0, (2, 14, .ofNat 0)), (1, (0, 2, .ofNat 0)), (2, (0, 3, .ofNat 0))], [], [], [(0, .ofNat 0, .ofNat 160), (2, .negSucc 2147483647, .ofNat 2147483647), (3, .ofNat 0, .ofNat 6)], [], 4), [], .ofNat 12, [(.negSucc 1, 3)])
def zNx0 : List zNd := [zn0_0, zn0_1]
def zEx0 : List zSm := []
theorem ze0 : ∀ q ∈ zEx0, SmOk LL q := fun _ h => absurd h List.not_mem_nil
def zYx0 : List (Nat × Nat) := [(10, 4)]
def zQx0 : List zSp := []
theorem zK0 : zcks LL TTl zMx0 zEx0 zYx0 zNx0 zXx0 zQx0 0 100000 zNx0 = true := by decide +kernel
theorem zO0 : SmOk LL zSx0 := sm_ok (D := 0) (fu := 100000) (SP := zQx0) (NP := zYx0) (ND := zNx0) LL_1 TTl_ok ze0 (zcks_ok zK0) (c := .ofNat 14) rfl List.mem_cons_self
/-- freeLots -/
def zMx1 : List Nat := []
def zTx1 : zS := ([(0, (2, 4, .ofNat 0))], [], [], [(0, .ofNat 0, .ofNat 160)], [], 2)
def zXx1 : zS := ([], [(0, 2, .ofNat 0)], [], [(2, .negSucc 2147483647, .ofNat 2147483647)], [], 3)
def zSx1 : zSm := (11, 1, zTx1, zXx1, zMx1)
def zn1_0 : zNd := (11, 0, zTx1, [], .ofNat 14, [])
def zn1_1 : zNd := (11, 4, ([(0, (2, 4, .ofNat 0)), (1, (0, 2, .ofNat 0)), (2, (0, 3, .ofNat 0))], [], [], [(0, .ofNat 0, .ofNat 160), (2, .negSucc 2147483647, .ofNat 2147483647), (3, .ofNat 0, .ofNat 6)], [], 4), [], .ofNat 12, [(.negSucc 1, 3)])
def zNx1 : List zNd := [zn1_0, zn1_1]
def zEx1 : List zSm := []
theorem ze1 : ∀ q ∈ zEx1, SmOk LL q := fun _ h => absurd h List.not_mem_nil
def zYx1 : List (Nat × Nat) := [(11, 4)]
def zQx1 : List zSp := []
theorem zK1 : zcks LL TTl zMx1 zEx1 zYx1 zNx1 zXx1 zQx1 0 100000 zNx1 = true := by decide +kernel
theorem zO1 : SmOk LL zSx1 := sm_ok (D := 0) (fu := 100000) (SP := zQx1) (NP := zYx1) (ND := zNx1) LL_1 TTl_ok ze1 (zcks_ok zK1) (c := .ofNat 14) rfl List.mem_cons_self
/-- sumOf -/
def zMx2 : List Nat := []
def zTx2 : zS := ([(0, (2, 4, .ofNat 0)), (1, (0, 2, .ofNat 0))], [], [], [(0, .ofNat 0, .ofNat 160), (2, .negSucc 2147483647, .ofNat 2147483647)], [], 3)
def zXx2 : zS := ([], [(0, 2, .ofNat 0)], [], [(2, .negSucc 2147483647, .ofNat 2147483647)], [], 3)
def zSx2 : zSm := (8, 2, zTx2, zXx2, zMx2)
def zn2_0 : zNd := (8, 0, zTx2, [], .ofNat 14, [])
def zn2_1 : zNd := (8, 4, ([(0, (2, 4, .ofNat 0)), (1, (0, 2, .ofNat 0)), (2, (0, 3, .ofNat 0)), (3, (0, 4, .ofNat 0))], [], [], [(0, .ofNat 0, .ofNat 160), (2, .negSucc 2147483647, .ofNat 2147483647), (3, .negSucc 2147483647, .ofNat 2147483647), (4, .ofNat 0, .ofNat 6)], [], 5), [], .ofNat 12, [(.negSucc 1, 4)])
def zNx2 : List zNd := [zn2_0, zn2_1]
def zEx2 : List zSm := []
theorem ze2 : ∀ q ∈ zEx2, SmOk LL q := fun _ h => absurd h List.not_mem_nil
def zYx2 : List (Nat × Nat) := [(8, 4)]
def zQx2 : List zSp := []
theorem zK2 : zcks LL TTl zMx2 zEx2 zYx2 zNx2 zXx2 zQx2 1 100000 zNx2 = true := by decide +kernel
theorem zO2 : SmOk LL zSx2 := sm_ok (D := 1) (fu := 100000) (SP := zQx2) (NP := zYx2) (ND := zNx2) LL_1 TTl_ok ze2 (zcks_ok zK2) (c := .ofNat 14) rfl List.mem_cons_self
/-- allWorth -/
def zMx3 : List Nat := []
def zTx3 : zS := ([(0, (2, 4, .ofNat 0)), (1, (0, 2, .ofNat 0))], [], [], [(0, .ofNat 0, .ofNat 160), (2, .negSucc 2147483647, .ofNat 2147483647)], [], 3)
def zXx3 : zS := ([], [(0, 2, .ofNat 0)], [], [(2, .negSucc 2147483647, .ofNat 2147483647)], [], 3)
def zSx3 : zSm := (9, 2, zTx3, zXx3, zMx3)
def zn3_0 : zNd := (9, 0, zTx3, [], .ofNat 14, [])
def zn3_1 : zNd := (9, 4, ([(0, (2, 4, .ofNat 0)), (1, (0, 2, .ofNat 0)), (2, (0, 3, .ofNat 0)), (3, (0, 4, .ofNat 0))], [], [], [(0, .ofNat 0, .ofNat 160), (2, .negSucc 2147483647, .ofNat 2147483647), (3, .negSucc 2147483647, .ofNat 2147483647), (4, .ofNat 0, .ofNat 6)], [], 5), [], .ofNat 12, [(.negSucc 1, 4)])
def zNx3 : List zNd := [zn3_0, zn3_1]
def zEx3 : List zSm := []
theorem ze3 : ∀ q ∈ zEx3, SmOk LL q := fun _ h => absurd h List.not_mem_nil
def zYx3 : List (Nat × Nat) := [(9, 4)]
def zQx3 : List zSp := []
theorem zK3 : zcks LL TTl zMx3 zEx3 zYx3 zNx3 zXx3 zQx3 1 100000 zNx3 = true := by decide +kernel
theorem zO3 : SmOk LL zSx3 := sm_ok (D := 1) (fu := 100000) (SP := zQx3) (NP := zYx3) (ND := zNx3) LL_1 TTl_ok ze3 (zcks_ok zK3) (c := .ofNat 14) rfl List.mem_cons_self
/-- turnsHadBy -/
def zMx4 : List Nat := []
def zTx4 : zS := ([(0, (2, 4, .ofNat 0)), (1, (0, 2, .ofNat 0))], [], [], [(0, .ofNat 0, .ofNat 160), (2, .negSucc 2147483647, .ofNat 2147483647)], [], 3)
def zXx4 : zS := ([], [(0, 2, .ofNat 0)], [], [(2, .negSucc 2147483647, .ofNat 2147483647)], [], 3)
def zSx4 : zSm := (7, 2, zTx4, zXx4, zMx4)
def zn4_0 : zNd := (7, 0, zTx4, [], .ofNat 4294967296, [])
def zn4_1 : zNd := (7, 4, ([(0, (2, 4, .ofNat 0)), (1, (0, 2, .ofNat 0)), (2, (0, 3, .ofNat 0)), (3, (0, 4, .ofNat 0))], [], [], [(0, .ofNat 0, .ofNat 160), (2, .negSucc 2147483647, .ofNat 2147483647), (3, .negSucc 2147483647, .ofNat 2147483647), (4, .ofNat 0, .ofNat 2147483647)], [], 5), [], .ofNat 4294967294, [(.negSucc 1, 4)])
def zNx4 : List zNd := [zn4_0, zn4_1]
def zEx4 : List zSm := []
theorem ze4 : ∀ q ∈ zEx4, SmOk LL q := fun _ h => absurd h List.not_mem_nil
def zYx4 : List (Nat × Nat) := [(7, 4)]
def zQx4 : List zSp := []
theorem zK4 : zcks LL TTl zMx4 zEx4 zYx4 zNx4 zXx4 zQx4 1 100000 zNx4 = true := by decide +kernel
theorem zO4 : SmOk LL zSx4 := sm_ok (D := 1) (fu := 100000) (SP := zQx4) (NP := zYx4) (ND := zNx4) LL_1 TTl_ok ze4 (zcks_ok zK4) (c := .ofNat 4294967296) rfl List.mem_cons_self
/-- dearest -/
def zMx5 : List Nat := []
def zTx5 : zS := ([(0, (2, 4, .ofNat 0)), (1, (0, 2, .ofNat 0)), (2, (0, 3, .ofNat 0))], [], [], [(0, .ofNat 0, .ofNat 160), (2, .negSucc 2147483647, .ofNat 2147483647), (3, .negSucc 2147483647, .ofNat 2147483647)], [], 4)
def zXx5 : zS := ([], [(0, 2, .ofNat 0)], [], [(2, .negSucc 0, .ofNat 5)], [], 3)
def zSx5 : zSm := (30, 2, zTx5, zXx5, zMx5)
def zn5_0 : zNd := (30, 0, zTx5, [], .ofNat 14, [])
def zn5_1 : zNd := (30, 5, ([(0, (2, 4, .ofNat 0)), (1, (0, 2, .ofNat 0)), (2, (0, 3, .ofNat 0)), (3, (0, 4, .ofNat 0)), (4, (0, 5, .ofNat 0))], [], [], [(0, .ofNat 0, .ofNat 160), (2, .negSucc 2147483647, .ofNat 2147483647), (3, .negSucc 2147483647, .ofNat 2147483647), (4, .negSucc 0, .ofNat 5), (5, .ofNat 0, .ofNat 6)], [], 6), [], .ofNat 12, [(.negSucc 1, 5)])
def zNx5 : List zNd := [zn5_0, zn5_1]
def zEx5 : List zSm := []
theorem ze5 : ∀ q ∈ zEx5, SmOk LL q := fun _ h => absurd h List.not_mem_nil
def zYx5 : List (Nat × Nat) := [(30, 5)]
def zQx5 : List zSp := []
theorem zK5 : zcks LL TTl zMx5 zEx5 zYx5 zNx5 zXx5 zQx5 1 100000 zNx5 = true := by decide +kernel
theorem zO5 : SmOk LL zSx5 := sm_ok (D := 1) (fu := 100000) (SP := zQx5) (NP := zYx5) (ND := zNx5) LL_1 TTl_ok ze5 (zcks_ok zK5) (c := .ofNat 14) rfl List.mem_cons_self
/-- start -/
def zMx6 : List Nat := [4, 5, 6, 7, 8, 9, 10, 11, 12, 13]
def zTx6 : zS := ([(0, (2, 4, .ofNat 0)), (1, (0, 2, .ofNat 0))], [], [], [(0, .ofNat 0, .ofNat 160), (2, .negSucc 2147483647, .ofNat 2147483647)], [], 3)
def zXx6 : zS := ([], [], [], [], [], 2)
def zSx6 : zSm := (19, 4, zTx6, zXx6, zMx6)
def zn6_0 : zNd := (19, 0, zTx6, [], .ofNat 141, [])
def zn6_1 : zNd := (169, 5, ([(1, (0, 1, .negSucc 0)), (3, (0, 1, .ofNat 6)), (0, (2, 12, .ofNat 0)), (2, (0, 2, .ofNat 0))], [], [], [(0, .ofNat 0, .ofNat 160), (2, .ofNat 0, .ofNat 6), (3, .negSucc 2147483647, .ofNat 2147483647)], [], 4), [(19, 18, [(0, (2, 4, .ofNat 0)), (1, (0, 3, .ofNat 0))], [])], .ofNat 139, [(.negSucc 1, 2)])
def zn6_2 : zNd := (169, 5, ([(1, (0, 1, .negSucc 0)), (3, (0, 1, .ofNat 6)), (0, (2, 13, .ofNat 0)), (2, (0, 2, .ofNat 0))], [], [], [(0, .ofNat 0, .ofNat 160), (2, .ofNat 0, .ofNat 6), (3, .negSucc 2147483647, .ofNat 2147483647)], [], 4), [(19, 26, [(0, (2, 4, .ofNat 0)), (1, (0, 3, .ofNat 0))], [])], .ofNat 125, [(.negSucc 1, 2)])
def zn6_3 : zNd := (169, 5, ([(1, (0, 1, .ofNat 0)), (3, (0, 1, .ofNat 4)), (0, (2, 10, .ofNat 0)), (2, (0, 2, .ofNat 0))], [], [], [(0, .ofNat 0, .ofNat 160), (2, .ofNat 0, .ofNat 4), (3, .negSucc 2147483647, .ofNat 2147483647)], [], 4), [(20, 8, [(0, (2, 4, .ofNat 0))], []), (19, 53, [(0, (2, 4, .ofNat 0)), (1, (0, 3, .ofNat 0))], [])], .ofNat 111, [(.negSucc 1, 2)])
def zn6_4 : zNd := (169, 5, ([(1, (0, 1, .negSucc 0)), (3, (0, 1, .ofNat 6)), (0, (2, 8, .ofNat 0)), (2, (0, 2, .ofNat 0))], [], [], [(0, .ofNat 0, .ofNat 160), (2, .ofNat 0, .ofNat 6), (3, .negSucc 2147483647, .ofNat 2147483647)], [], 4), [(20, 16, [(0, (2, 4, .ofNat 0))], []), (19, 53, [(0, (2, 4, .ofNat 0)), (1, (0, 3, .ofNat 0))], [])], .ofNat 101, [(.negSucc 1, 2)])
def zn6_5 : zNd := (20, 18, ([(0, (2, 4, .ofNat 0)), (1, (0, 2, .ofNat 0))], [], [], [(0, .ofNat 0, .ofNat 160), (2, .ofNat 0, .ofNat 6), (3, .negSucc 2147483647, .ofNat 2147483647)], [], 4), [(19, 53, [(0, (2, 4, .ofNat 0)), (1, (0, 3, .ofNat 0))], [])], .ofNat 87, [(.negSucc 9, 2)])
def zn6_6 : zNd := (21, 9, ([(0, (2, 4, .ofNat 0)), (1, (0, 2, .ofNat 0)), (2, (0, 3, .ofNat 0))], [], [], [(0, .ofNat 0, .ofNat 160), (2, .negSucc 2147483647, .ofNat 2147483647), (3, .negSucc 0, .ofNat 5), (4, .negSucc 2147483647, .ofNat 2147483647)], [], 5), [(19, 57, [(0, (2, 4, .ofNat 0)), (1, (0, 4, .ofNat 0))], [])], .ofNat 7, [(.ofNat 2, 3)])
def zn6_7 : zNd := (20, 30, ([(0, (2, 4, .ofNat 0)), (1, (0, 2, .ofNat 0)), (2, (0, 3, .ofNat 0)), (3, (0, 4, .ofNat 0))], [], [], [(0, .ofNat 0, .ofNat 160), (2, .ofNat 0, .ofNat 5), (3, .ofNat 0, .ofNat 3), (4, .ofNat 1, .ofNat 4), (5, .negSucc 2147483647, .ofNat 2147483647)], [], 6), [(19, 53, [(0, (2, 4, .ofNat 0)), (1, (0, 5, .ofNat 0))], [])], .ofNat 87, [(.negSucc 9, 2), (.negSucc 1, 4)])
def zn6_8 : zNd := (24, 2, ([(1, (0, 1, .ofNat 0)), (0, (2, 4, .ofNat 0))], [], [], [(0, .ofNat 0, .ofNat 160), (2, .negSucc 2147483647, .ofNat 2147483647)], [], 3), [(19, 61, [(0, (2, 4, .ofNat 0)), (1, (0, 2, .ofNat 0))], [])], .ofNat 4, [])
def zn6_9 : zNd := (24, 2, ([(1, (0, 1, .ofNat 1)), (0, (2, 4, .ofNat 0)), (2, (0, 2, .ofNat 0)), (3, (0, 3, .ofNat 0))], [], [], [(0, .ofNat 0, .ofNat 160), (2, .ofNat 0, .ofNat 3), (3, .ofNat 1, .ofNat 4), (4, .negSucc 2147483647, .ofNat 2147483647)], [], 5), [(19, 61, [(0, (2, 4, .ofNat 0)), (1, (0, 4, .ofNat 0))], [])], .ofNat 3, [])
def zn6_10 : zNd := (24, 2, ([(1, (0, 1, .ofNat 2)), (0, (2, 4, .ofNat 0)), (2, (0, 2, .ofNat 0)), (3, (0, 3, .ofNat 0))], [], [], [(0, .ofNat 0, .ofNat 160), (2, .ofNat 0, .ofNat 3), (3, .ofNat 2, .ofNat 4), (4, .negSucc 2147483647, .ofNat 2147483647)], [], 5), [(19, 61, [(0, (2, 4, .ofNat 0)), (1, (0, 4, .ofNat 0))], [])], .ofNat 2, [])
def zn6_11 : zNd := (24, 2, ([(1, (0, 1, .ofNat 3)), (0, (2, 4, .ofNat 0)), (2, (0, 2, .ofNat 0)), (3, (0, 3, .ofNat 0))], [], [], [(0, .ofNat 0, .ofNat 160), (2, .ofNat 0, .ofNat 3), (3, .ofNat 3, .ofNat 4), (4, .negSucc 2147483647, .ofNat 2147483647)], [], 5), [(19, 61, [(0, (2, 4, .ofNat 0)), (1, (0, 4, .ofNat 0))], [])], .ofNat 1, [])
def zn6_12 : zNd := (24, 2, ([(1, (0, 1, .ofNat 4)), (3, (0, 1, .ofNat 4)), (0, (2, 4, .ofNat 0)), (2, (0, 2, .ofNat 0))], [], [], [(0, .ofNat 0, .ofNat 160), (2, .ofNat 0, .ofNat 3), (3, .negSucc 2147483647, .ofNat 2147483647)], [], 4), [(19, 61, [(0, (2, 4, .ofNat 0)), (1, (0, 3, .ofNat 0))], [])], .ofNat 0, [])
def zNx6 : List zNd := [zn6_0, zn6_1, zn6_2, zn6_3, zn6_4, zn6_5, zn6_6, zn6_7, zn6_8, zn6_9, zn6_10, zn6_11, zn6_12]
def zEx6 : List zSm := []
theorem ze6 : ∀ q ∈ zEx6, SmOk LL q := fun _ h => absurd h List.not_mem_nil
def zYx6 : List (Nat × Nat) := [(20, 18), (20, 30), (21, 9), (24, 2), (169, 5)]
def zQx6 : List zSp := []
theorem zK6 : zcks LL TTl zMx6 zEx6 zYx6 zNx6 zXx6 zQx6 3 100000 zNx6 = true := by decide +kernel
theorem zO6 : SmOk LL zSx6 := sm_ok (D := 3) (fu := 100000) (SP := zQx6) (NP := zYx6) (ND := zNx6) LL_1 TTl_ok ze6 (zcks_ok zK6) (c := .ofNat 141) rfl List.mem_cons_self
/-- outcome11 -/
def zMx7 : List Nat := [88]
def zTx7 : zS := ([(5, (0, 1, .ofNat 11)), (0, (2, 86, .ofNat 0)), (1, (2, 4, .ofNat 0)), (2, (0, 2, .ofNat 0)), (3, (0, 3, .ofNat 0)), (4, (0, 4, .ofNat 0))], [], [], [(0, .ofNat 0, .ofNat 160), (2, .negSucc 2147483647, .ofNat 2147483647), (3, .negSucc 2147483647, .ofNat 2147483647), (4, .negSucc 2147483647, .ofNat 2147483647)], [], 5)
def zXx7 : zS := ([], [(1, 2, .ofNat 0)], [], [(2, .negSucc 9223372036854775807, .ofNat 9223372036854775807)], [], 3)
def zSx7 : zSm := (41, 2, zTx7, zXx7, zMx7)
def zn7_0 : zNd := (41, 0, zTx7, [], .ofNat 0, [])
def zNx7 : List zNd := [zn7_0]
def zEx7 : List zSm := []
theorem ze7 : ∀ q ∈ zEx7, SmOk LL q := fun _ h => absurd h List.not_mem_nil
def zYx7 : List (Nat × Nat) := []
def zQx7 : List zSp := []
theorem zK7 : zcks LL TTl zMx7 zEx7 zYx7 zNx7 zXx7 zQx7 1 100000 zNx7 = true := by decide +kernel
theorem zO7 : SmOk LL zSx7 := sm_ok (D := 1) (fu := 100000) (SP := zQx7) (NP := zYx7) (ND := zNx7) LL_1 TTl_ok ze7 (zcks_ok zK7) (c := .ofNat 0) rfl List.mem_cons_self
/-- ifTaken10 -/
def zMx8 : List Nat := [88]
def zTx8 : zS := ([(6, (0, 1, .ofNat 10)), (0, (2, 86, .ofNat 0)), (1, (2, 4, .ofNat 0)), (2, (0, 2, .ofNat 0)), (3, (0, 3, .ofNat 0)), (4, (0, 4, .ofNat 0)), (5, (0, 5, .ofNat 0))], [], [], [(0, .ofNat 0, .ofNat 160), (2, .negSucc 2147483647, .ofNat 2147483647), (3, .negSucc 2147483647, .ofNat 2147483647), (4, .negSucc 2147483647, .ofNat 2147483647), (5, .negSucc 2147483647, .ofNat 2147483647)], [], 6)
def zXx8 : zS := ([], [(1, 2, .ofNat 0)], [], [(2, .negSucc 9223372036854775807, .ofNat 9223372036854775807)], [], 3)
def zSx8 : zSm := (42, 3, zTx8, zXx8, zMx8)
def zn8_0 : zNd := (42, 0, zTx8, [], .ofNat 10, [])
def zn8_1 : zNd := (42, 110, ([(6, (0, 1, .ofNat 10)), (0, (2, 86, .ofNat 0)), (1, (2, 4, .ofNat 0)), (2, (0, 2, .ofNat 0)), (3, (0, 3, .ofNat 0)), (4, (0, 4, .ofNat 0)), (5, (0, 5, .ofNat 0)), (7, (0, 6, .ofNat 0)), (8, (0, 7, .ofNat 0)), (9, (1, 8, .ofNat 0)), (11, (1, 9, .ofNat 0)), (13, (0, 10, .ofNat 0)), (14, (0, 11, .ofNat 0))], [], [], [(0, .ofNat 0, .ofNat 160), (2, .negSucc 2147483647, .ofNat 2147483647), (3, .negSucc 2147483647, .ofNat 2147483647), (4, .negSucc 2147483647, .ofNat 2147483647), (5, .negSucc 2147483647, .ofNat 2147483647), (6, .negSucc 2147483647, .ofNat 2147483647), (7, .negSucc 2147483647, .ofNat 2147483647), (8, .negSucc 9223372036854775807, .ofNat 9223372036854775807), (9, .negSucc 9223372036854775807, .ofNat 9223372036854775807), (10, .ofNat 0, .ofNat 1), (11, .negSucc 0, .ofNat 3)], [], 12), [], .ofNat 2, [(.ofNat 2, 11)])
def zNx8 : List zNd := [zn8_0, zn8_1]
def zEx8 : List zSm := [zSx7]
theorem ze8 : ∀ q ∈ zEx8, SmOk LL q := List.forall_mem_cons.mpr ⟨zO7, fun _ h => absurd h List.not_mem_nil⟩
def zYx8 : List (Nat × Nat) := [(42, 110)]
def zQx8 : List zSp := []
theorem zK8 : zcks LL TTl zMx8 zEx8 zYx8 zNx8 zXx8 zQx8 2 100000 zNx8 = true := by decide +kernel
theorem zO8 : SmOk LL zSx8 := sm_ok (D := 2) (fu := 100000) (SP := zQx8) (NP := zYx8) (ND := zNx8) LL_1 TTl_ok ze8 (zcks_ok zK8) (c := .ofNat 10) rfl List.mem_cons_self
/-- outcome10 -/
def zMx9 : List Nat := [88]
def zTx9 : zS := ([(5, (0, 1, .ofNat 10)), (0, (2, 86, .ofNat 0)), (1, (2, 4, .ofNat 0)), (2, (0, 2, .ofNat 0)), (3, (0, 3, .ofNat 0)), (4, (0, 4, .ofNat 0))], [], [], [(0, .ofNat 0, .ofNat 160), (2, .negSucc 2147483647, .ofNat 2147483647), (3, .negSucc 2147483647, .ofNat 2147483647), (4, .negSucc 2147483647, .ofNat 2147483647)], [], 5)
def zXx9 : zS := ([], [(1, 2, .ofNat 0)], [], [(2, .negSucc 9223372036854775807, .ofNat 9223372036854775807)], [], 3)
def zSx9 : zSm := (41, 4, zTx9, zXx9, zMx9)
def zn9_0 : zNd := (41, 0, zTx9, [], .ofNat 14, [])
def zn9_1 : zNd := (41, 93, ([(5, (0, 1, .ofNat 10)), (0, (2, 86, .ofNat 0)), (1, (2, 4, .ofNat 0)), (2, (0, 2, .ofNat 0)), (3, (0, 3, .ofNat 0)), (4, (0, 4, .ofNat 0)), (6, (0, 5, .ofNat 0)), (7, (0, 6, .ofNat 0)), (8, (0, 7, .ofNat 0)), (9, (0, 8, .ofNat 0)), (10, (1, 9, .ofNat 0)), (12, (0, 10, .ofNat 0))], [], [], [(0, .ofNat 0, .ofNat 160), (2, .negSucc 2147483647, .ofNat 2147483647), (3, .negSucc 2147483647, .ofNat 2147483647), (4, .negSucc 2147483647, .ofNat 2147483647), (5, .ofNat 0, .ofNat 5), (6, .negSucc 2147483647, .ofNat 2147483647), (7, .negSucc 2147483647, .ofNat 2147483647), (8, .ofNat 0, .ofNat 11663), (9, .negSucc 9223372036854775807, .ofNat 9223372036854775807), (10, .ofNat 0, .ofNat 6)], [], 11), [], .ofNat 12, [(.negSucc 1, 10)])
def zNx9 : List zNd := [zn9_0, zn9_1]
def zEx9 : List zSm := [zSx8]
theorem ze9 : ∀ q ∈ zEx9, SmOk LL q := List.forall_mem_cons.mpr ⟨zO8, fun _ h => absurd h List.not_mem_nil⟩
def zYx9 : List (Nat × Nat) := [(41, 93)]
def zQx9 : List zSp := []
theorem zK9 : zcks LL TTl zMx9 zEx9 zYx9 zNx9 zXx9 zQx9 3 100000 zNx9 = true := by decide +kernel
theorem zO9 : SmOk LL zSx9 := sm_ok (D := 3) (fu := 100000) (SP := zQx9) (NP := zYx9) (ND := zNx9) LL_1 TTl_ok ze9 (zcks_ok zK9) (c := .ofNat 14) rfl List.mem_cons_self
/-- ifTaken9 -/
def zMx10 : List Nat := [88]
def zTx10 : zS := ([(6, (0, 1, .ofNat 9)), (0, (2, 86, .ofNat 0)), (1, (2, 4, .ofNat 0)), (2, (0, 2, .ofNat 0)), (3, (0, 3, .ofNat 0)), (4, (0, 4, .ofNat 0)), (5, (0, 5, .ofNat 0))], [], [], [(0, .ofNat 0, .ofNat 160), (2, .negSucc 2147483647, .ofNat 2147483647), (3, .negSucc 2147483647, .ofNat 2147483647), (4, .negSucc 2147483647, .ofNat 2147483647), (5, .negSucc 2147483647, .ofNat 2147483647)], [], 6)
def zXx10 : zS := ([], [(1, 2, .ofNat 0)], [], [(2, .negSucc 9223372036854775807, .ofNat 9223372036854775807)], [], 3)
def zSx10 : zSm := (42, 5, zTx10, zXx10, zMx10)
def zn10_0 : zNd := (42, 0, zTx10, [], .ofNat 10, [])
def zn10_1 : zNd := (42, 110, ([(6, (0, 1, .ofNat 9)), (0, (2, 86, .ofNat 0)), (1, (2, 4, .ofNat 0)), (2, (0, 2, .ofNat 0)), (3, (0, 3, .ofNat 0)), (4, (0, 4, .ofNat 0)), (5, (0, 5, .ofNat 0)), (7, (0, 6, .ofNat 0)), (8, (0, 7, .ofNat 0)), (9, (1, 8, .ofNat 0)), (11, (1, 9, .ofNat 0)), (13, (0, 10, .ofNat 0)), (14, (0, 11, .ofNat 0))], [], [], [(0, .ofNat 0, .ofNat 160), (2, .negSucc 2147483647, .ofNat 2147483647), (3, .negSucc 2147483647, .ofNat 2147483647), (4, .negSucc 2147483647, .ofNat 2147483647), (5, .negSucc 2147483647, .ofNat 2147483647), (6, .negSucc 2147483647, .ofNat 2147483647), (7, .negSucc 2147483647, .ofNat 2147483647), (8, .negSucc 9223372036854775807, .ofNat 9223372036854775807), (9, .negSucc 9223372036854775807, .ofNat 9223372036854775807), (10, .ofNat 0, .ofNat 1), (11, .negSucc 0, .ofNat 3)], [], 12), [], .ofNat 2, [(.ofNat 2, 11)])
def zNx10 : List zNd := [zn10_0, zn10_1]
def zEx10 : List zSm := [zSx9]
theorem ze10 : ∀ q ∈ zEx10, SmOk LL q := List.forall_mem_cons.mpr ⟨zO9, fun _ h => absurd h List.not_mem_nil⟩
def zYx10 : List (Nat × Nat) := [(42, 110)]
def zQx10 : List zSp := []
theorem zK10 : zcks LL TTl zMx10 zEx10 zYx10 zNx10 zXx10 zQx10 4 100000 zNx10 = true := by decide +kernel
theorem zO10 : SmOk LL zSx10 := sm_ok (D := 4) (fu := 100000) (SP := zQx10) (NP := zYx10) (ND := zNx10) LL_1 TTl_ok ze10 (zcks_ok zK10) (c := .ofNat 10) rfl List.mem_cons_self
/-- outcome9 -/
def zMx11 : List Nat := [88]
def zTx11 : zS := ([(5, (0, 1, .ofNat 9)), (0, (2, 86, .ofNat 0)), (1, (2, 4, .ofNat 0)), (2, (0, 2, .ofNat 0)), (3, (0, 3, .ofNat 0)), (4, (0, 4, .ofNat 0))], [], [], [(0, .ofNat 0, .ofNat 160), (2, .negSucc 2147483647, .ofNat 2147483647), (3, .negSucc 2147483647, .ofNat 2147483647), (4, .negSucc 2147483647, .ofNat 2147483647)], [], 5)
def zXx11 : zS := ([], [(1, 2, .ofNat 0)], [], [(2, .negSucc 9223372036854775807, .ofNat 9223372036854775807)], [], 3)
def zSx11 : zSm := (41, 6, zTx11, zXx11, zMx11)
def zn11_0 : zNd := (41, 0, zTx11, [], .ofNat 14, [])
def zn11_1 : zNd := (41, 93, ([(5, (0, 1, .ofNat 9)), (0, (2, 86, .ofNat 0)), (1, (2, 4, .ofNat 0)), (2, (0, 2, .ofNat 0)), (3, (0, 3, .ofNat 0)), (4, (0, 4, .ofNat 0)), (6, (0, 5, .ofNat 0)), (7, (0, 6, .ofNat 0)), (8, (0, 7, .ofNat 0)), (9, (0, 8, .ofNat 0)), (10, (1, 9, .ofNat 0)), (12, (0, 10, .ofNat 0))], [], [], [(0, .ofNat 0, .ofNat 160), (2, .negSucc 2147483647, .ofNat 2147483647), (3, .negSucc 2147483647, .ofNat 2147483647), (4, .negSucc 2147483647, .ofNat 2147483647), (5, .ofNat 0, .ofNat 5), (6, .negSucc 2147483647, .ofNat 2147483647), (7, .negSucc 2147483647, .ofNat 2147483647), (8, .ofNat 0, .ofNat 11663), (9, .negSucc 9223372036854775807, .ofNat 9223372036854775807), (10, .ofNat 0, .ofNat 6)], [], 11), [], .ofNat 12, [(.negSucc 1, 10)])
def zNx11 : List zNd := [zn11_0, zn11_1]
def zEx11 : List zSm := [zSx10]
theorem ze11 : ∀ q ∈ zEx11, SmOk LL q := List.forall_mem_cons.mpr ⟨zO10, fun _ h => absurd h List.not_mem_nil⟩
def zYx11 : List (Nat × Nat) := [(41, 93)]
def zQx11 : List zSp := []
theorem zK11 : zcks LL TTl zMx11 zEx11 zYx11 zNx11 zXx11 zQx11 5 100000 zNx11 = true := by decide +kernel
theorem zO11 : SmOk LL zSx11 := sm_ok (D := 5) (fu := 100000) (SP := zQx11) (NP := zYx11) (ND := zNx11) LL_1 TTl_ok ze11 (zcks_ok zK11) (c := .ofNat 14) rfl List.mem_cons_self
/-- ifTaken8 -/
def zMx12 : List Nat := [88]
def zTx12 : zS := ([(6, (0, 1, .ofNat 8)), (0, (2, 86, .ofNat 0)), (1, (2, 4, .ofNat 0)), (2, (0, 2, .ofNat 0)), (3, (0, 3, .ofNat 0)), (4, (0, 4, .ofNat 0)), (5, (0, 5, .ofNat 0))], [], [], [(0, .ofNat 0, .ofNat 160), (2, .negSucc 2147483647, .ofNat 2147483647), (3, .negSucc 2147483647, .ofNat 2147483647), (4, .negSucc 2147483647, .ofNat 2147483647), (5, .negSucc 2147483647, .ofNat 2147483647)], [], 6)
def zXx12 : zS := ([], [(1, 2, .ofNat 0)], [], [(2, .negSucc 9223372036854775807, .ofNat 9223372036854775807)], [], 3)
def zSx12 : zSm := (42, 7, zTx12, zXx12, zMx12)
def zn12_0 : zNd := (42, 0, zTx12, [], .ofNat 10, [])
def zn12_1 : zNd := (42, 110, ([(6, (0, 1, .ofNat 8)), (0, (2, 86, .ofNat 0)), (1, (2, 4, .ofNat 0)), (2, (0, 2, .ofNat 0)), (3, (0, 3, .ofNat 0)), (4, (0, 4, .ofNat 0)), (5, (0, 5, .ofNat 0)), (7, (0, 6, .ofNat 0)), (8, (0, 7, .ofNat 0)), (9, (1, 8, .ofNat 0)), (11, (1, 9, .ofNat 0)), (13, (0, 10, .ofNat 0)), (14, (0, 11, .ofNat 0))], [], [], [(0, .ofNat 0, .ofNat 160), (2, .negSucc 2147483647, .ofNat 2147483647), (3, .negSucc 2147483647, .ofNat 2147483647), (4, .negSucc 2147483647, .ofNat 2147483647), (5, .negSucc 2147483647, .ofNat 2147483647), (6, .negSucc 2147483647, .ofNat 2147483647), (7, .negSucc 2147483647, .ofNat 2147483647), (8, .negSucc 9223372036854775807, .ofNat 9223372036854775807), (9, .negSucc 9223372036854775807, .ofNat 9223372036854775807), (10, .ofNat 0, .ofNat 1), (11, .negSucc 0, .ofNat 3)], [], 12), [], .ofNat 2, [(.ofNat 2, 11)])
def zNx12 : List zNd := [zn12_0, zn12_1]
def zEx12 : List zSm := [zSx11]
theorem ze12 : ∀ q ∈ zEx12, SmOk LL q := List.forall_mem_cons.mpr ⟨zO11, fun _ h => absurd h List.not_mem_nil⟩
def zYx12 : List (Nat × Nat) := [(42, 110)]
def zQx12 : List zSp := []
theorem zK12 : zcks LL TTl zMx12 zEx12 zYx12 zNx12 zXx12 zQx12 6 100000 zNx12 = true := by decide +kernel
theorem zO12 : SmOk LL zSx12 := sm_ok (D := 6) (fu := 100000) (SP := zQx12) (NP := zYx12) (ND := zNx12) LL_1 TTl_ok ze12 (zcks_ok zK12) (c := .ofNat 10) rfl List.mem_cons_self
/-- outcome8 -/
def zMx13 : List Nat := [88]
def zTx13 : zS := ([(5, (0, 1, .ofNat 8)), (0, (2, 86, .ofNat 0)), (1, (2, 4, .ofNat 0)), (2, (0, 2, .ofNat 0)), (3, (0, 3, .ofNat 0)), (4, (0, 4, .ofNat 0))], [], [], [(0, .ofNat 0, .ofNat 160), (2, .negSucc 2147483647, .ofNat 2147483647), (3, .negSucc 2147483647, .ofNat 2147483647), (4, .negSucc 2147483647, .ofNat 2147483647)], [], 5)
def zXx13 : zS := ([], [(1, 2, .ofNat 0)], [], [(2, .negSucc 9223372036854775807, .ofNat 9223372036854775807)], [], 3)
def zSx13 : zSm := (41, 8, zTx13, zXx13, zMx13)
def zn13_0 : zNd := (41, 0, zTx13, [], .ofNat 14, [])
def zn13_1 : zNd := (41, 93, ([(5, (0, 1, .ofNat 8)), (0, (2, 86, .ofNat 0)), (1, (2, 4, .ofNat 0)), (2, (0, 2, .ofNat 0)), (3, (0, 3, .ofNat 0)), (4, (0, 4, .ofNat 0)), (6, (0, 5, .ofNat 0)), (7, (0, 6, .ofNat 0)), (8, (0, 7, .ofNat 0)), (9, (0, 8, .ofNat 0)), (10, (1, 9, .ofNat 0)), (12, (0, 10, .ofNat 0))], [], [], [(0, .ofNat 0, .ofNat 160), (2, .negSucc 2147483647, .ofNat 2147483647), (3, .negSucc 2147483647, .ofNat 2147483647), (4, .negSucc 2147483647, .ofNat 2147483647), (5, .ofNat 0, .ofNat 5), (6, .negSucc 2147483647, .ofNat 2147483647), (7, .negSucc 2147483647, .ofNat 2147483647), (8, .ofNat 0, .ofNat 11663), (9, .negSucc 9223372036854775807, .ofNat 9223372036854775807), (10, .ofNat 0, .ofNat 6)], [], 11), [], .ofNat 12, [(.negSucc 1, 10)])
def zNx13 : List zNd := [zn13_0, zn13_1]
def zEx13 : List zSm := [zSx12]
theorem ze13 : ∀ q ∈ zEx13, SmOk LL q := List.forall_mem_cons.mpr ⟨zO12, fun _ h => absurd h List.not_mem_nil⟩
def zYx13 : List (Nat × Nat) := [(41, 93)]
def zQx13 : List zSp := []
theorem zK13 : zcks LL TTl zMx13 zEx13 zYx13 zNx13 zXx13 zQx13 7 100000 zNx13 = true := by decide +kernel
theorem zO13 : SmOk LL zSx13 := sm_ok (D := 7) (fu := 100000) (SP := zQx13) (NP := zYx13) (ND := zNx13) LL_1 TTl_ok ze13 (zcks_ok zK13) (c := .ofNat 14) rfl List.mem_cons_self
/-- ifTaken7 -/
def zMx14 : List Nat := [88]
def zTx14 : zS := ([(6, (0, 1, .ofNat 7)), (0, (2, 86, .ofNat 0)), (1, (2, 4, .ofNat 0)), (2, (0, 2, .ofNat 0)), (3, (0, 3, .ofNat 0)), (4, (0, 4, .ofNat 0)), (5, (0, 5, .ofNat 0))], [], [], [(0, .ofNat 0, .ofNat 160), (2, .negSucc 2147483647, .ofNat 2147483647), (3, .negSucc 2147483647, .ofNat 2147483647), (4, .negSucc 2147483647, .ofNat 2147483647), (5, .negSucc 2147483647, .ofNat 2147483647)], [], 6)
def zXx14 : zS := ([], [(1, 2, .ofNat 0)], [], [(2, .negSucc 9223372036854775807, .ofNat 9223372036854775807)], [], 3)
def zSx14 : zSm := (42, 9, zTx14, zXx14, zMx14)
def zn14_0 : zNd := (42, 0, zTx14, [], .ofNat 10, [])
def zn14_1 : zNd := (42, 110, ([(6, (0, 1, .ofNat 7)), (0, (2, 86, .ofNat 0)), (1, (2, 4, .ofNat 0)), (2, (0, 2, .ofNat 0)), (3, (0, 3, .ofNat 0)), (4, (0, 4, .ofNat 0)), (5, (0, 5, .ofNat 0)), (7, (0, 6, .ofNat 0)), (8, (0, 7, .ofNat 0)), (9, (1, 8, .ofNat 0)), (11, (1, 9, .ofNat 0)), (13, (0, 10, .ofNat 0)), (14, (0, 11, .ofNat 0))], [], [], [(0, .ofNat 0, .ofNat 160), (2, .negSucc 2147483647, .ofNat 2147483647), (3, .negSucc 2147483647, .ofNat 2147483647), (4, .negSucc 2147483647, .ofNat 2147483647), (5, .negSucc 2147483647, .ofNat 2147483647), (6, .negSucc 2147483647, .ofNat 2147483647), (7, .negSucc 2147483647, .ofNat 2147483647), (8, .negSucc 9223372036854775807, .ofNat 9223372036854775807), (9, .negSucc 9223372036854775807, .ofNat 9223372036854775807), (10, .ofNat 0, .ofNat 1), (11, .negSucc 0, .ofNat 3)], [], 12), [], .ofNat 2, [(.ofNat 2, 11)])
def zNx14 : List zNd := [zn14_0, zn14_1]
def zEx14 : List zSm := [zSx13]
theorem ze14 : ∀ q ∈ zEx14, SmOk LL q := List.forall_mem_cons.mpr ⟨zO13, fun _ h => absurd h List.not_mem_nil⟩
def zYx14 : List (Nat × Nat) := [(42, 110)]
def zQx14 : List zSp := []
theorem zK14 : zcks LL TTl zMx14 zEx14 zYx14 zNx14 zXx14 zQx14 8 100000 zNx14 = true := by decide +kernel
theorem zO14 : SmOk LL zSx14 := sm_ok (D := 8) (fu := 100000) (SP := zQx14) (NP := zYx14) (ND := zNx14) LL_1 TTl_ok ze14 (zcks_ok zK14) (c := .ofNat 10) rfl List.mem_cons_self
/-- outcome7 -/
def zMx15 : List Nat := [88]
def zTx15 : zS := ([(5, (0, 1, .ofNat 7)), (0, (2, 86, .ofNat 0)), (1, (2, 4, .ofNat 0)), (2, (0, 2, .ofNat 0)), (3, (0, 3, .ofNat 0)), (4, (0, 4, .ofNat 0))], [], [], [(0, .ofNat 0, .ofNat 160), (2, .negSucc 2147483647, .ofNat 2147483647), (3, .negSucc 2147483647, .ofNat 2147483647), (4, .negSucc 2147483647, .ofNat 2147483647)], [], 5)
def zXx15 : zS := ([], [(1, 2, .ofNat 0)], [], [(2, .negSucc 9223372036854775807, .ofNat 9223372036854775807)], [], 3)
def zSx15 : zSm := (41, 10, zTx15, zXx15, zMx15)
def zn15_0 : zNd := (41, 0, zTx15, [], .ofNat 14, [])
def zn15_1 : zNd := (41, 93, ([(5, (0, 1, .ofNat 7)), (0, (2, 86, .ofNat 0)), (1, (2, 4, .ofNat 0)), (2, (0, 2, .ofNat 0)), (3, (0, 3, .ofNat 0)), (4, (0, 4, .ofNat 0)), (6, (0, 5, .ofNat 0)), (7, (0, 6, .ofNat 0)), (8, (0, 7, .ofNat 0)), (9, (0, 8, .ofNat 0)), (10, (1, 9, .ofNat 0)), (12, (0, 10, .ofNat 0))], [], [], [(0, .ofNat 0, .ofNat 160), (2, .negSucc 2147483647, .ofNat 2147483647), (3, .negSucc 2147483647, .ofNat 2147483647), (4, .negSucc 2147483647, .ofNat 2147483647), (5, .ofNat 0, .ofNat 5), (6, .negSucc 2147483647, .ofNat 2147483647), (7, .negSucc 2147483647, .ofNat 2147483647), (8, .ofNat 0, .ofNat 11663), (9, .negSucc 9223372036854775807, .ofNat 9223372036854775807), (10, .ofNat 0, .ofNat 6)], [], 11), [], .ofNat 12, [(.negSucc 1, 10)])
def zNx15 : List zNd := [zn15_0, zn15_1]
def zEx15 : List zSm := [zSx14]
theorem ze15 : ∀ q ∈ zEx15, SmOk LL q := List.forall_mem_cons.mpr ⟨zO14, fun _ h => absurd h List.not_mem_nil⟩
def zYx15 : List (Nat × Nat) := [(41, 93)]
def zQx15 : List zSp := []
theorem zK15 : zcks LL TTl zMx15 zEx15 zYx15 zNx15 zXx15 zQx15 9 100000 zNx15 = true := by decide +kernel
theorem zO15 : SmOk LL zSx15 := sm_ok (D := 9) (fu := 100000) (SP := zQx15) (NP := zYx15) (ND := zNx15) LL_1 TTl_ok ze15 (zcks_ok zK15) (c := .ofNat 14) rfl List.mem_cons_self
/-- ifTaken6 -/
def zMx16 : List Nat := [88]
def zTx16 : zS := ([(6, (0, 1, .ofNat 6)), (0, (2, 86, .ofNat 0)), (1, (2, 4, .ofNat 0)), (2, (0, 2, .ofNat 0)), (3, (0, 3, .ofNat 0)), (4, (0, 4, .ofNat 0)), (5, (0, 5, .ofNat 0))], [], [], [(0, .ofNat 0, .ofNat 160), (2, .negSucc 2147483647, .ofNat 2147483647), (3, .negSucc 2147483647, .ofNat 2147483647), (4, .negSucc 2147483647, .ofNat 2147483647), (5, .negSucc 2147483647, .ofNat 2147483647)], [], 6)
def zXx16 : zS := ([], [(1, 2, .ofNat 0)], [], [(2, .negSucc 9223372036854775807, .ofNat 9223372036854775807)], [], 3)
def zSx16 : zSm := (42, 11, zTx16, zXx16, zMx16)
def zn16_0 : zNd := (42, 0, zTx16, [], .ofNat 10, [])
def zn16_1 : zNd := (42, 110, ([(6, (0, 1, .ofNat 6)), (0, (2, 86, .ofNat 0)), (1, (2, 4, .ofNat 0)), (2, (0, 2, .ofNat 0)), (3, (0, 3, .ofNat 0)), (4, (0, 4, .ofNat 0)), (5, (0, 5, .ofNat 0)), (7, (0, 6, .ofNat 0)), (8, (0, 7, .ofNat 0)), (9, (1, 8, .ofNat 0)), (11, (1, 9, .ofNat 0)), (13, (0, 10, .ofNat 0)), (14, (0, 11, .ofNat 0))], [], [], [(0, .ofNat 0, .ofNat 160), (2, .negSucc 2147483647, .ofNat 2147483647), (3, .negSucc 2147483647, .ofNat 2147483647), (4, .negSucc 2147483647, .ofNat 2147483647), (5, .negSucc 2147483647, .ofNat 2147483647), (6, .negSucc 2147483647, .ofNat 2147483647), (7, .negSucc 2147483647, .ofNat 2147483647), (8, .negSucc 9223372036854775807, .ofNat 9223372036854775807), (9, .negSucc 9223372036854775807, .ofNat 9223372036854775807), (10, .ofNat 0, .ofNat 1), (11, .negSucc 0, .ofNat 3)], [], 12), [], .ofNat 2, [(.ofNat 2, 11)])
def zNx16 : List zNd := [zn16_0, zn16_1]
def zEx16 : List zSm := [zSx15]
theorem ze16 : ∀ q ∈ zEx16, SmOk LL q := List.forall_mem_cons.mpr ⟨zO15, fun _ h => absurd h List.not_mem_nil⟩
def zYx16 : List (Nat × Nat) := [(42, 110)]
def zQx16 : List zSp := []
theorem zK16 : zcks LL TTl zMx16 zEx16 zYx16 zNx16 zXx16 zQx16 10 100000 zNx16 = true := by decide +kernel
theorem zO16 : SmOk LL zSx16 := sm_ok (D := 10) (fu := 100000) (SP := zQx16) (NP := zYx16) (ND := zNx16) LL_1 TTl_ok ze16 (zcks_ok zK16) (c := .ofNat 10) rfl List.mem_cons_self
/-- outcome6 -/
def zMx17 : List Nat := [88]
def zTx17 : zS := ([(5, (0, 1, .ofNat 6)), (0, (2, 86, .ofNat 0)), (1, (2, 4, .ofNat 0)), (2, (0, 2, .ofNat 0)), (3, (0, 3, .ofNat 0)), (4, (0, 4, .ofNat 0))], [], [], [(0, .ofNat 0, .ofNat 160), (2, .negSucc 2147483647, .ofNat 2147483647), (3, .negSucc 2147483647, .ofNat 2147483647), (4, .negSucc 2147483647, .ofNat 2147483647)], [], 5)
def zXx17 : zS := ([], [(1, 2, .ofNat 0)], [], [(2, .negSucc 9223372036854775807, .ofNat 9223372036854775807)], [], 3)
def zSx17 : zSm := (41, 12, zTx17, zXx17, zMx17)
def zn17_0 : zNd := (41, 0, zTx17, [], .ofNat 14, [])
def zn17_1 : zNd := (41, 93, ([(5, (0, 1, .ofNat 6)), (0, (2, 86, .ofNat 0)), (1, (2, 4, .ofNat 0)), (2, (0, 2, .ofNat 0)), (3, (0, 3, .ofNat 0)), (4, (0, 4, .ofNat 0)), (6, (0, 5, .ofNat 0)), (7, (0, 6, .ofNat 0)), (8, (0, 7, .ofNat 0)), (9, (0, 8, .ofNat 0)), (10, (1, 9, .ofNat 0)), (12, (0, 10, .ofNat 0))], [], [], [(0, .ofNat 0, .ofNat 160), (2, .negSucc 2147483647, .ofNat 2147483647), (3, .negSucc 2147483647, .ofNat 2147483647), (4, .negSucc 2147483647, .ofNat 2147483647), (5, .ofNat 0, .ofNat 5), (6, .negSucc 2147483647, .ofNat 2147483647), (7, .negSucc 2147483647, .ofNat 2147483647), (8, .ofNat 0, .ofNat 11663), (9, .negSucc 9223372036854775807, .ofNat 9223372036854775807), (10, .ofNat 0, .ofNat 6)], [], 11), [], .ofNat 12, [(.negSucc 1, 10)])
def zNx17 : List zNd := [zn17_0, zn17_1]
def zEx17 : List zSm := [zSx16]
theorem ze17 : ∀ q ∈ zEx17, SmOk LL q := List.forall_mem_cons.mpr ⟨zO16, fun _ h => absurd h List.not_mem_nil⟩
def zYx17 : List (Nat × Nat) := [(41, 93)]
def zQx17 : List zSp := []
theorem zK17 : zcks LL TTl zMx17 zEx17 zYx17 zNx17 zXx17 zQx17 11 100000 zNx17 = true := by decide +kernel
theorem zO17 : SmOk LL zSx17 := sm_ok (D := 11) (fu := 100000) (SP := zQx17) (NP := zYx17) (ND := zNx17) LL_1 TTl_ok ze17 (zcks_ok zK17) (c := .ofNat 14) rfl List.mem_cons_self
/-- ifTaken5 -/
def zMx18 : List Nat := [88]
def zTx18 : zS := ([(6, (0, 1, .ofNat 5)), (0, (2, 86, .ofNat 0)), (1, (2, 4, .ofNat 0)), (2, (0, 2, .ofNat 0)), (3, (0, 3, .ofNat 0)), (4, (0, 4, .ofNat 0)), (5, (0, 5, .ofNat 0))], [], [], [(0, .ofNat 0, .ofNat 160), (2, .negSucc 2147483647, .ofNat 2147483647), (3, .negSucc 2147483647, .ofNat 2147483647), (4, .negSucc 2147483647, .ofNat 2147483647), (5, .negSucc 2147483647, .ofNat 2147483647)], [], 6)
def zXx18 : zS := ([], [(1, 2, .ofNat 0)], [], [(2, .negSucc 9223372036854775807, .ofNat 9223372036854775807)], [], 3)
def zSx18 : zSm := (42, 13, zTx18, zXx18, zMx18)
def zn18_0 : zNd := (42, 0, zTx18, [], .ofNat 10, [])
def zn18_1 : zNd := (42, 110, ([(6, (0, 1, .ofNat 5)), (0, (2, 86, .ofNat 0)), (1, (2, 4, .ofNat 0)), (2, (0, 2, .ofNat 0)), (3, (0, 3, .ofNat 0)), (4, (0, 4, .ofNat 0)), (5, (0, 5, .ofNat 0)), (7, (0, 6, .ofNat 0)), (8, (0, 7, .ofNat 0)), (9, (1, 8, .ofNat 0)), (11, (1, 9, .ofNat 0)), (13, (0, 10, .ofNat 0)), (14, (0, 11, .ofNat 0))], [], [], [(0, .ofNat 0, .ofNat 160), (2, .negSucc 2147483647, .ofNat 2147483647), (3, .negSucc 2147483647, .ofNat 2147483647), (4, .negSucc 2147483647, .ofNat 2147483647), (5, .negSucc 2147483647, .ofNat 2147483647), (6, .negSucc 2147483647, .ofNat 2147483647), (7, .negSucc 2147483647, .ofNat 2147483647), (8, .negSucc 9223372036854775807, .ofNat 9223372036854775807), (9, .negSucc 9223372036854775807, .ofNat 9223372036854775807), (10, .ofNat 0, .ofNat 1), (11, .negSucc 0, .ofNat 3)], [], 12), [], .ofNat 2, [(.ofNat 2, 11)])
def zNx18 : List zNd := [zn18_0, zn18_1]
def zEx18 : List zSm := [zSx17]
theorem ze18 : ∀ q ∈ zEx18, SmOk LL q := List.forall_mem_cons.mpr ⟨zO17, fun _ h => absurd h List.not_mem_nil⟩
def zYx18 : List (Nat × Nat) := [(42, 110)]
def zQx18 : List zSp := []
theorem zK18 : zcks LL TTl zMx18 zEx18 zYx18 zNx18 zXx18 zQx18 12 100000 zNx18 = true := by decide +kernel
theorem zO18 : SmOk LL zSx18 := sm_ok (D := 12) (fu := 100000) (SP := zQx18) (NP := zYx18) (ND := zNx18) LL_1 TTl_ok ze18 (zcks_ok zK18) (c := .ofNat 10) rfl List.mem_cons_self
/-- outcome5 -/
def zMx19 : List Nat := [88]
def zTx19 : zS := ([(5, (0, 1, .ofNat 5)), (0, (2, 86, .ofNat 0)), (1, (2, 4, .ofNat 0)), (2, (0, 2, .ofNat 0)), (3, (0, 3, .ofNat 0)), (4, (0, 4, .ofNat 0))], [], [], [(0, .ofNat 0, .ofNat 160), (2, .negSucc 2147483647, .ofNat 2147483647), (3, .negSucc 2147483647, .ofNat 2147483647), (4, .negSucc 2147483647, .ofNat 2147483647)], [], 5)
def zXx19 : zS := ([], [(1, 2, .ofNat 0)], [], [(2, .negSucc 9223372036854775807, .ofNat 9223372036854775807)], [], 3)
def zSx19 : zSm := (41, 14, zTx19, zXx19, zMx19)
def zn19_0 : zNd := (41, 0, zTx19, [], .ofNat 14, [])
def zn19_1 : zNd := (41, 93, ([(5, (0, 1, .ofNat 5)), (0, (2, 86, .ofNat 0)), (1, (2, 4, .ofNat 0)), (2, (0, 2, .ofNat 0)), (3, (0, 3, .ofNat 0)), (4, (0, 4, .ofNat 0)), (6, (0, 5, .ofNat 0)), (7, (0, 6, .ofNat 0)), (8, (0, 7, .ofNat 0)), (9, (0, 8, .ofNat 0)), (10, (1, 9, .ofNat 0)), (12, (0, 10, .ofNat 0))], [], [], [(0, .ofNat 0, .ofNat 160), (2, .negSucc 2147483647, .ofNat 2147483647), (3, .negSucc 2147483647, .ofNat 2147483647), (4, .negSucc 2147483647, .ofNat 2147483647), (5, .ofNat 0, .ofNat 5), (6, .negSucc 2147483647, .ofNat 2147483647), (7, .negSucc 2147483647, .ofNat 2147483647), (8, .ofNat 0, .ofNat 11663), (9, .negSucc 9223372036854775807, .ofNat 9223372036854775807), (10, .ofNat 0, .ofNat 6)], [], 11), [], .ofNat 12, [(.negSucc 1, 10)])
def zNx19 : List zNd := [zn19_0, zn19_1]
def zEx19 : List zSm := [zSx18]
theorem ze19 : ∀ q ∈ zEx19, SmOk LL q := List.forall_mem_cons.mpr ⟨zO18, fun _ h => absurd h List.not_mem_nil⟩
def zYx19 : List (Nat × Nat) := [(41, 93)]
def zQx19 : List zSp := []
theorem zK19 : zcks LL TTl zMx19 zEx19 zYx19 zNx19 zXx19 zQx19 13 100000 zNx19 = true := by decide +kernel
theorem zO19 : SmOk LL zSx19 := sm_ok (D := 13) (fu := 100000) (SP := zQx19) (NP := zYx19) (ND := zNx19) LL_1 TTl_ok ze19 (zcks_ok zK19) (c := .ofNat 14) rfl List.mem_cons_self
/-- ifTaken4 -/
def zMx20 : List Nat := [88]
def zTx20 : zS := ([(6, (0, 1, .ofNat 4)), (0, (2, 86, .ofNat 0)), (1, (2, 4, .ofNat 0)), (2, (0, 2, .ofNat 0)), (3, (0, 3, .ofNat 0)), (4, (0, 4, .ofNat 0)), (5, (0, 5, .ofNat 0))], [], [], [(0, .ofNat 0, .ofNat 160), (2, .negSucc 2147483647, .ofNat 2147483647), (3, .negSucc 2147483647, .ofNat 2147483647), (4, .negSucc 2147483647, .ofNat 2147483647), (5, .negSucc 2147483647, .ofNat 2147483647)], [], 6)
def zXx20 : zS := ([], [(1, 2, .ofNat 0)], [], [(2, .negSucc 9223372036854775807, .ofNat 9223372036854775807)], [], 3)
def zSx20 : zSm := (42, 15, zTx20, zXx20, zMx20)
def zn20_0 : zNd := (42, 0, zTx20, [], .ofNat 10, [])
def zn20_1 : zNd := (42, 110, ([(6, (0, 1, .ofNat 4)), (0, (2, 86, .ofNat 0)), (1, (2, 4, .ofNat 0)), (2, (0, 2, .ofNat 0)), (3, (0, 3, .ofNat 0)), (4, (0, 4, .ofNat 0)), (5, (0, 5, .ofNat 0)), (7, (0, 6, .ofNat 0)), (8, (0, 7, .ofNat 0)), (9, (1, 8, .ofNat 0)), (11, (1, 9, .ofNat 0)), (13, (0, 10, .ofNat 0)), (14, (0, 11, .ofNat 0))], [], [], [(0, .ofNat 0, .ofNat 160), (2, .negSucc 2147483647, .ofNat 2147483647), (3, .negSucc 2147483647, .ofNat 2147483647), (4, .negSucc 2147483647, .ofNat 2147483647), (5, .negSucc 2147483647, .ofNat 2147483647), (6, .negSucc 2147483647, .ofNat 2147483647), (7, .negSucc 2147483647, .ofNat 2147483647), (8, .negSucc 9223372036854775807, .ofNat 9223372036854775807), (9, .negSucc 9223372036854775807, .ofNat 9223372036854775807), (10, .ofNat 0, .ofNat 1), (11, .negSucc 0, .ofNat 3)], [], 12), [], .ofNat 2, [(.ofNat 2, 11)])
def zNx20 : List zNd := [zn20_0, zn20_1]
def zEx20 : List zSm := [zSx19]
theorem ze20 : ∀ q ∈ zEx20, SmOk LL q := List.forall_mem_cons.mpr ⟨zO19, fun _ h => absurd h List.not_mem_nil⟩
def zYx20 : List (Nat × Nat) := [(42, 110)]
def zQx20 : List zSp := []
theorem zK20 : zcks LL TTl zMx20 zEx20 zYx20 zNx20 zXx20 zQx20 14 100000 zNx20 = true := by decide +kernel
theorem zO20 : SmOk LL zSx20 := sm_ok (D := 14) (fu := 100000) (SP := zQx20) (NP := zYx20) (ND := zNx20) LL_1 TTl_ok ze20 (zcks_ok zK20) (c := .ofNat 10) rfl List.mem_cons_self
/-- outcome4 -/
def zMx21 : List Nat := [88]
def zTx21 : zS := ([(5, (0, 1, .ofNat 4)), (0, (2, 86, .ofNat 0)), (1, (2, 4, .ofNat 0)), (2, (0, 2, .ofNat 0)), (3, (0, 3, .ofNat 0)), (4, (0, 4, .ofNat 0))], [], [], [(0, .ofNat 0, .ofNat 160), (2, .negSucc 2147483647, .ofNat 2147483647), (3, .negSucc 2147483647, .ofNat 2147483647), (4, .negSucc 2147483647, .ofNat 2147483647)], [], 5)
def zXx21 : zS := ([], [(1, 2, .ofNat 0)], [], [(2, .negSucc 9223372036854775807, .ofNat 9223372036854775807)], [], 3)
def zSx21 : zSm := (41, 16, zTx21, zXx21, zMx21)
def zn21_0 : zNd := (41, 0, zTx21, [], .ofNat 14, [])
def zn21_1 : zNd := (41, 93, ([(5, (0, 1, .ofNat 4)), (0, (2, 86, .ofNat 0)), (1, (2, 4, .ofNat 0)), (2, (0, 2, .ofNat 0)), (3, (0, 3, .ofNat 0)), (4, (0, 4, .ofNat 0)), (6, (0, 5, .ofNat 0)), (7, (0, 6, .ofNat 0)), (8, (0, 7, .ofNat 0)), (9, (0, 8, .ofNat 0)), (10, (1, 9, .ofNat 0)), (12, (0, 10, .ofNat 0))], [], [], [(0, .ofNat 0, .ofNat 160), (2, .negSucc 2147483647, .ofNat 2147483647), (3, .negSucc 2147483647, .ofNat 2147483647), (4, .negSucc 2147483647, .ofNat 2147483647), (5, .ofNat 0, .ofNat 5), (6, .negSucc 2147483647, .ofNat 2147483647), (7, .negSucc 2147483647, .ofNat 2147483647), (8, .ofNat 0, .ofNat 11663), (9, .negSucc 9223372036854775807, .ofNat 9223372036854775807), (10, .ofNat 0, .ofNat 6)], [], 11), [], .ofNat 12, [(.negSucc 1, 10)])
def zNx21 : List zNd := [zn21_0, zn21_1]
def zEx21 : List zSm := [zSx20]
theorem ze21 : ∀ q ∈ zEx21, SmOk LL q := List.forall_mem_cons.mpr ⟨zO20, fun _ h => absurd h List.not_mem_nil⟩
def zYx21 : List (Nat × Nat) := [(41, 93)]
def zQx21 : List zSp := []
theorem zK21 : zcks LL TTl zMx21 zEx21 zYx21 zNx21 zXx21 zQx21 15 100000 zNx21 = true := by decide +kernel
theorem zO21 : SmOk LL zSx21 := sm_ok (D := 15) (fu := 100000) (SP := zQx21) (NP := zYx21) (ND := zNx21) LL_1 TTl_ok ze21 (zcks_ok zK21) (c := .ofNat 14) rfl List.mem_cons_self
/-- ifTaken3 -/
def zMx22 : List Nat := [88]
def zTx22 : zS := ([(6, (0, 1, .ofNat 3)), (0, (2, 86, .ofNat 0)), (1, (2, 4, .ofNat 0)), (2, (0, 2, .ofNat 0)), (3, (0, 3, .ofNat 0)), (4, (0, 4, .ofNat 0)), (5, (0, 5, .ofNat 0))], [], [], [(0, .ofNat 0, .ofNat 160), (2, .negSucc 2147483647, .ofNat 2147483647), (3, .negSucc 2147483647, .ofNat 2147483647), (4, .negSucc 2147483647, .ofNat 2147483647), (5, .negSucc 2147483647, .ofNat 2147483647)], [], 6)
def zXx22 : zS := ([], [(1, 2, .ofNat 0)], [], [(2, .negSucc 9223372036854775807, .ofNat 9223372036854775807)], [], 3)
def zSx22 : zSm := (42, 17, zTx22, zXx22, zMx22)
def zn22_0 : zNd := (42, 0, zTx22, [], .ofNat 10, [])
def zn22_1 : zNd := (42, 110, ([(6, (0, 1, .ofNat 3)), (0, (2, 86, .ofNat 0)), (1, (2, 4, .ofNat 0)), (2, (0, 2, .ofNat 0)), (3, (0, 3, .ofNat 0)), (4, (0, 4, .ofNat 0)), (5, (0, 5, .ofNat 0)), (7, (0, 6, .ofNat 0)), (8, (0, 7, .ofNat 0)), (9, (1, 8, .ofNat 0)), (11, (1, 9, .ofNat 0)), (13, (0, 10, .ofNat 0)), (14, (0, 11, .ofNat 0))], [], [], [(0, .ofNat 0, .ofNat 160), (2, .negSucc 2147483647, .ofNat 2147483647), (3, .negSucc 2147483647, .ofNat 2147483647), (4, .negSucc 2147483647, .ofNat 2147483647), (5, .negSucc 2147483647, .ofNat 2147483647), (6, .negSucc 2147483647, .ofNat 2147483647), (7, .negSucc 2147483647, .ofNat 2147483647), (8, .negSucc 9223372036854775807, .ofNat 9223372036854775807), (9, .negSucc 9223372036854775807, .ofNat 9223372036854775807), (10, .ofNat 0, .ofNat 1), (11, .negSucc 0, .ofNat 3)], [], 12), [], .ofNat 2, [(.ofNat 2, 11)])
def zNx22 : List zNd := [zn22_0, zn22_1]
def zEx22 : List zSm := [zSx21]
theorem ze22 : ∀ q ∈ zEx22, SmOk LL q := List.forall_mem_cons.mpr ⟨zO21, fun _ h => absurd h List.not_mem_nil⟩
def zYx22 : List (Nat × Nat) := [(42, 110)]
def zQx22 : List zSp := []
theorem zK22 : zcks LL TTl zMx22 zEx22 zYx22 zNx22 zXx22 zQx22 16 100000 zNx22 = true := by decide +kernel
theorem zO22 : SmOk LL zSx22 := sm_ok (D := 16) (fu := 100000) (SP := zQx22) (NP := zYx22) (ND := zNx22) LL_1 TTl_ok ze22 (zcks_ok zK22) (c := .ofNat 10) rfl List.mem_cons_self
/-- outcome3 -/
def zMx23 : List Nat := [88]
def zTx23 : zS := ([(5, (0, 1, .ofNat 3)), (0, (2, 86, .ofNat 0)), (1, (2, 4, .ofNat 0)), (2, (0, 2, .ofNat 0)), (3, (0, 3, .ofNat 0)), (4, (0, 4, .ofNat 0))], [], [], [(0, .ofNat 0, .ofNat 160), (2, .negSucc 2147483647, .ofNat 2147483647), (3, .negSucc 2147483647, .ofNat 2147483647), (4, .negSucc 2147483647, .ofNat 2147483647)], [], 5)
def zXx23 : zS := ([], [(1, 2, .ofNat 0)], [], [(2, .negSucc 9223372036854775807, .ofNat 9223372036854775807)], [], 3)
def zSx23 : zSm := (41, 18, zTx23, zXx23, zMx23)
def zn23_0 : zNd := (41, 0, zTx23, [], .ofNat 14, [])
def zn23_1 : zNd := (41, 93, ([(5, (0, 1, .ofNat 3)), (0, (2, 86, .ofNat 0)), (1, (2, 4, .ofNat 0)), (2, (0, 2, .ofNat 0)), (3, (0, 3, .ofNat 0)), (4, (0, 4, .ofNat 0)), (6, (0, 5, .ofNat 0)), (7, (0, 6, .ofNat 0)), (8, (0, 7, .ofNat 0)), (9, (0, 8, .ofNat 0)), (10, (1, 9, .ofNat 0)), (12, (0, 10, .ofNat 0))], [], [], [(0, .ofNat 0, .ofNat 160), (2, .negSucc 2147483647, .ofNat 2147483647), (3, .negSucc 2147483647, .ofNat 2147483647), (4, .negSucc 2147483647, .ofNat 2147483647), (5, .ofNat 0, .ofNat 5), (6, .negSucc 2147483647, .ofNat 2147483647), (7, .negSucc 2147483647, .ofNat 2147483647), (8, .ofNat 0, .ofNat 11663), (9, .negSucc 9223372036854775807, .ofNat 9223372036854775807), (10, .ofNat 0, .ofNat 6)], [], 11), [], .ofNat 12, [(.negSucc 1, 10)])
def zNx23 : List zNd := [zn23_0, zn23_1]
def zEx23 : List zSm := [zSx22]
theorem ze23 : ∀ q ∈ zEx23, SmOk LL q := List.forall_mem_cons.mpr ⟨zO22, fun _ h => absurd h List.not_mem_nil⟩
def zYx23 : List (Nat × Nat) := [(41, 93)]
def zQx23 : List zSp := []
theorem zK23 : zcks LL TTl zMx23 zEx23 zYx23 zNx23 zXx23 zQx23 17 100000 zNx23 = true := by decide +kernel
theorem zO23 : SmOk LL zSx23 := sm_ok (D := 17) (fu := 100000) (SP := zQx23) (NP := zYx23) (ND := zNx23) LL_1 TTl_ok ze23 (zcks_ok zK23) (c := .ofNat 14) rfl List.mem_cons_self
/-- ifTaken2 -/
def zMx24 : List Nat := [88]
def zTx24 : zS := ([(6, (0, 1, .ofNat 2)), (0, (2, 86, .ofNat 0)), (1, (2, 4, .ofNat 0)), (2, (0, 2, .ofNat 0)), (3, (0, 3, .ofNat 0)), (4, (0, 4, .ofNat 0)), (5, (0, 5, .ofNat 0))], [], [], [(0, .ofNat 0, .ofNat 160), (2, .negSucc 2147483647, .ofNat 2147483647), (3, .negSucc 2147483647, .ofNat 2147483647), (4, .negSucc 2147483647, .ofNat 2147483647), (5, .negSucc 2147483647, .ofNat 2147483647)], [], 6)
def zXx24 : zS := ([], [(1, 2, .ofNat 0)], [], [(2, .negSucc 9223372036854775807, .ofNat 9223372036854775807)], [], 3)
def zSx24 : zSm := (42, 19, zTx24, zXx24, zMx24)
def zn24_0 : zNd := (42, 0, zTx24, [], .ofNat 10, [])
def zn24_1 : zNd := (42, 110, ([(6, (0, 1, .ofNat 2)), (0, (2, 86, .ofNat 0)), (1, (2, 4, .ofNat 0)), (2, (0, 2, .ofNat 0)), (3, (0, 3, .ofNat 0)), (4, (0, 4, .ofNat 0)), (5, (0, 5, .ofNat 0)), (7, (0, 6, .ofNat 0)), (8, (0, 7, .ofNat 0)), (9, (1, 8, .ofNat 0)), (11, (1, 9, .ofNat 0)), (13, (0, 10, .ofNat 0)), (14, (0, 11, .ofNat 0))], [], [], [(0, .ofNat 0, .ofNat 160), (2, .negSucc 2147483647, .ofNat 2147483647), (3, .negSucc 2147483647, .ofNat 2147483647), (4, .negSucc 2147483647, .ofNat 2147483647), (5, .negSucc 2147483647, .ofNat 2147483647), (6, .negSucc 2147483647, .ofNat 2147483647), (7, .negSucc 2147483647, .ofNat 2147483647), (8, .negSucc 9223372036854775807, .ofNat 9223372036854775807), (9, .negSucc 9223372036854775807, .ofNat 9223372036854775807), (10, .ofNat 0, .ofNat 1), (11, .negSucc 0, .ofNat 3)], [], 12), [], .ofNat 2, [(.ofNat 2, 11)])
def zNx24 : List zNd := [zn24_0, zn24_1]
def zEx24 : List zSm := [zSx23]
theorem ze24 : ∀ q ∈ zEx24, SmOk LL q := List.forall_mem_cons.mpr ⟨zO23, fun _ h => absurd h List.not_mem_nil⟩
def zYx24 : List (Nat × Nat) := [(42, 110)]
def zQx24 : List zSp := []
theorem zK24 : zcks LL TTl zMx24 zEx24 zYx24 zNx24 zXx24 zQx24 18 100000 zNx24 = true := by decide +kernel
theorem zO24 : SmOk LL zSx24 := sm_ok (D := 18) (fu := 100000) (SP := zQx24) (NP := zYx24) (ND := zNx24) LL_1 TTl_ok ze24 (zcks_ok zK24) (c := .ofNat 10) rfl List.mem_cons_self
/-- outcome2 -/
def zMx25 : List Nat := [88]
def zTx25 : zS := ([(5, (0, 1, .ofNat 2)), (0, (2, 86, .ofNat 0)), (1, (2, 4, .ofNat 0)), (2, (0, 2, .ofNat 0)), (3, (0, 3, .ofNat 0)), (4, (0, 4, .ofNat 0))], [], [], [(0, .ofNat 0, .ofNat 160), (2, .negSucc 2147483647, .ofNat 2147483647), (3, .negSucc 2147483647, .ofNat 2147483647), (4, .negSucc 2147483647, .ofNat 2147483647)], [], 5)
def zXx25 : zS := ([], [(1, 2, .ofNat 0)], [], [(2, .negSucc 9223372036854775807, .ofNat 9223372036854775807)], [], 3)
def zSx25 : zSm := (41, 20, zTx25, zXx25, zMx25)
def zn25_0 : zNd := (41, 0, zTx25, [], .ofNat 14, [])
def zn25_1 : zNd := (41, 93, ([(5, (0, 1, .ofNat 2)), (0, (2, 86, .ofNat 0)), (1, (2, 4, .ofNat 0)), (2, (0, 2, .ofNat 0)), (3, (0, 3, .ofNat 0)), (4, (0, 4, .ofNat 0)), (6, (0, 5, .ofNat 0)), (7, (0, 6, .ofNat 0)), (8, (0, 7, .ofNat 0)), (9, (0, 8, .ofNat 0)), (10, (1, 9, .ofNat 0)), (12, (0, 10, .ofNat 0))], [], [], [(0, .ofNat 0, .ofNat 160), (2, .negSucc 2147483647, .ofNat 2147483647), (3, .negSucc 2147483647, .ofNat 2147483647), (4, .negSucc 2147483647, .ofNat 2147483647), (5, .ofNat 0, .ofNat 5), (6, .negSucc 2147483647, .ofNat 2147483647), (7, .negSucc 2147483647, .ofNat 2147483647), (8, .ofNat 0, .ofNat 11663), (9, .negSucc 9223372036854775807, .ofNat 9223372036854775807), (10, .ofNat 0, .ofNat 6)], [], 11), [], .ofNat 12, [(.negSucc 1, 10)])
def zNx25 : List zNd := [zn25_0, zn25_1]
def zEx25 : List zSm := [zSx24]
theorem ze25 : ∀ q ∈ zEx25, SmOk LL q := List.forall_mem_cons.mpr ⟨zO24, fun _ h => absurd h List.not_mem_nil⟩
def zYx25 : List (Nat × Nat) := [(41, 93)]
def zQx25 : List zSp := []
theorem zK25 : zcks LL TTl zMx25 zEx25 zYx25 zNx25 zXx25 zQx25 19 100000 zNx25 = true := by decide +kernel
theorem zO25 : SmOk LL zSx25 := sm_ok (D := 19) (fu := 100000) (SP := zQx25) (NP := zYx25) (ND := zNx25) LL_1 TTl_ok ze25 (zcks_ok zK25) (c := .ofNat 14) rfl List.mem_cons_self
/-- ifTaken1 -/
def zMx26 : List Nat := [88]
def zTx26 : zS := ([(6, (0, 1, .ofNat 1)), (0, (2, 86, .ofNat 0)), (1, (2, 4, .ofNat 0)), (2, (0, 2, .ofNat 0)), (3, (0, 3, .ofNat 0)), (4, (0, 4, .ofNat 0)), (5, (0, 5, .ofNat 0))], [], [], [(0, .ofNat 0, .ofNat 160), (2, .negSucc 2147483647, .ofNat 2147483647), (3, .negSucc 2147483647, .ofNat 2147483647), (4, .negSucc 2147483647, .ofNat 2147483647), (5, .negSucc 2147483647, .ofNat 2147483647)], [], 6)
def zXx26 : zS := ([], [(1, 2, .ofNat 0)], [], [(2, .negSucc 9223372036854775807, .ofNat 9223372036854775807)], [], 3)
def zSx26 : zSm := (42, 21, zTx26, zXx26, zMx26)
def zn26_0 : zNd := (42, 0, zTx26, [], .ofNat 10, [])
def zn26_1 : zNd := (42, 110, ([(6, (0, 1, .ofNat 1)), (0, (2, 86, .ofNat 0)), (1, (2, 4, .ofNat 0)), (2, (0, 2, .ofNat 0)), (3, (0, 3, .ofNat 0)), (4, (0, 4, .ofNat 0)), (5, (0, 5, .ofNat 0)), (7, (0, 6, .ofNat 0)), (8, (0, 7, .ofNat 0)), (9, (1, 8, .ofNat 0)), (11, (1, 9, .ofNat 0)), (13, (0, 10, .ofNat 0)), (14, (0, 11, .ofNat 0))], [], [], [(0, .ofNat 0, .ofNat 160), (2, .negSucc 2147483647, .ofNat 2147483647), (3, .negSucc 2147483647, .ofNat 2147483647), (4, .negSucc 2147483647, .ofNat 2147483647), (5, .negSucc 2147483647, .ofNat 2147483647), (6, .negSucc 2147483647, .ofNat 2147483647), (7, .negSucc 2147483647, .ofNat 2147483647), (8, .negSucc 9223372036854775807, .ofNat 9223372036854775807), (9, .negSucc 9223372036854775807, .ofNat 9223372036854775807), (10, .ofNat 0, .ofNat 1), (11, .negSucc 0, .ofNat 3)], [], 12), [], .ofNat 2, [(.ofNat 2, 11)])
def zNx26 : List zNd := [zn26_0, zn26_1]
def zEx26 : List zSm := [zSx25]
theorem ze26 : ∀ q ∈ zEx26, SmOk LL q := List.forall_mem_cons.mpr ⟨zO25, fun _ h => absurd h List.not_mem_nil⟩
def zYx26 : List (Nat × Nat) := [(42, 110)]
def zQx26 : List zSp := []
theorem zK26 : zcks LL TTl zMx26 zEx26 zYx26 zNx26 zXx26 zQx26 20 100000 zNx26 = true := by decide +kernel
theorem zO26 : SmOk LL zSx26 := sm_ok (D := 20) (fu := 100000) (SP := zQx26) (NP := zYx26) (ND := zNx26) LL_1 TTl_ok ze26 (zcks_ok zK26) (c := .ofNat 10) rfl List.mem_cons_self
/-- outcome1 -/
def zMx27 : List Nat := [88]
def zTx27 : zS := ([(5, (0, 1, .ofNat 1)), (0, (2, 86, .ofNat 0)), (1, (2, 4, .ofNat 0)), (2, (0, 2, .ofNat 0)), (3, (0, 3, .ofNat 0)), (4, (0, 4, .ofNat 0))], [], [], [(0, .ofNat 0, .ofNat 160), (2, .negSucc 2147483647, .ofNat 2147483647), (3, .negSucc 2147483647, .ofNat 2147483647), (4, .negSucc 2147483647, .ofNat 2147483647)], [], 5)
def zXx27 : zS := ([], [(1, 2, .ofNat 0)], [], [(2, .negSucc 9223372036854775807, .ofNat 9223372036854775807)], [], 3)
def zSx27 : zSm := (41, 22, zTx27, zXx27, zMx27)
def zn27_0 : zNd := (41, 0, zTx27, [], .ofNat 14, [])
def zn27_1 : zNd := (41, 93, ([(5, (0, 1, .ofNat 1)), (0, (2, 86, .ofNat 0)), (1, (2, 4, .ofNat 0)), (2, (0, 2, .ofNat 0)), (3, (0, 3, .ofNat 0)), (4, (0, 4, .ofNat 0)), (6, (0, 5, .ofNat 0)), (7, (0, 6, .ofNat 0)), (8, (0, 7, .ofNat 0)), (9, (0, 8, .ofNat 0)), (10, (1, 9, .ofNat 0)), (12, (0, 10, .ofNat 0))], [], [], [(0, .ofNat 0, .ofNat 160), (2, .negSucc 2147483647, .ofNat 2147483647), (3, .negSucc 2147483647, .ofNat 2147483647), (4, .negSucc 2147483647, .ofNat 2147483647), (5, .ofNat 0, .ofNat 5), (6, .negSucc 2147483647, .ofNat 2147483647), (7, .negSucc 2147483647, .ofNat 2147483647), (8, .ofNat 0, .ofNat 11663), (9, .negSucc 9223372036854775807, .ofNat 9223372036854775807), (10, .ofNat 0, .ofNat 6)], [], 11), [], .ofNat 12, [(.negSucc 1, 10)])
def zNx27 : List zNd := [zn27_0, zn27_1]
def zEx27 : List zSm := [zSx26]
theorem ze27 : ∀ q ∈ zEx27, SmOk LL q := List.forall_mem_cons.mpr ⟨zO26, fun _ h => absurd h List.not_mem_nil⟩
def zYx27 : List (Nat × Nat) := [(41, 93)]
def zQx27 : List zSp := []
theorem zK27 : zcks LL TTl zMx27 zEx27 zYx27 zNx27 zXx27 zQx27 21 100000 zNx27 = true := by decide +kernel
theorem zO27 : SmOk LL zSx27 := sm_ok (D := 21) (fu := 100000) (SP := zQx27) (NP := zYx27) (ND := zNx27) LL_1 TTl_ok ze27 (zcks_ok zK27) (c := .ofNat 14) rfl List.mem_cons_self
/-- ifTaken0 -/
def zMx28 : List Nat := [88]
def zTx28 : zS := ([(6, (0, 1, .ofNat 0)), (0, (2, 86, .ofNat 0)), (1, (2, 4, .ofNat 0)), (2, (0, 2, .ofNat 0)), (3, (0, 3, .ofNat 0)), (4, (0, 4, .ofNat 0)), (5, (0, 5, .ofNat 0))], [], [], [(0, .ofNat 0, .ofNat 160), (2, .negSucc 2147483647, .ofNat 2147483647), (3, .negSucc 2147483647, .ofNat 2147483647), (4, .negSucc 2147483647, .ofNat 2147483647), (5, .negSucc 2147483647, .ofNat 2147483647)], [], 6)
def zXx28 : zS := ([], [(1, 2, .ofNat 0)], [], [(2, .negSucc 9223372036854775807, .ofNat 9223372036854775807)], [], 3)
def zSx28 : zSm := (42, 23, zTx28, zXx28, zMx28)
def zn28_0 : zNd := (42, 0, zTx28, [], .ofNat 10, [])
def zn28_1 : zNd := (42, 110, ([(6, (0, 1, .ofNat 0)), (0, (2, 86, .ofNat 0)), (1, (2, 4, .ofNat 0)), (2, (0, 2, .ofNat 0)), (3, (0, 3, .ofNat 0)), (4, (0, 4, .ofNat 0)), (5, (0, 5, .ofNat 0)), (7, (0, 6, .ofNat 0)), (8, (0, 7, .ofNat 0)), (9, (1, 8, .ofNat 0)), (11, (1, 9, .ofNat 0)), (13, (0, 10, .ofNat 0)), (14, (0, 11, .ofNat 0))], [], [], [(0, .ofNat 0, .ofNat 160), (2, .negSucc 2147483647, .ofNat 2147483647), (3, .negSucc 2147483647, .ofNat 2147483647), (4, .negSucc 2147483647, .ofNat 2147483647), (5, .negSucc 2147483647, .ofNat 2147483647), (6, .negSucc 2147483647, .ofNat 2147483647), (7, .negSucc 2147483647, .ofNat 2147483647), (8, .negSucc 9223372036854775807, .ofNat 9223372036854775807), (9, .negSucc 9223372036854775807, .ofNat 9223372036854775807), (10, .ofNat 0, .ofNat 1), (11, .negSucc 0, .ofNat 3)], [], 12), [], .ofNat 2, [(.ofNat 2, 11)])
def zNx28 : List zNd := [zn28_0, zn28_1]
def zEx28 : List zSm := [zSx27]
theorem ze28 : ∀ q ∈ zEx28, SmOk LL q := List.forall_mem_cons.mpr ⟨zO27, fun _ h => absurd h List.not_mem_nil⟩
def zYx28 : List (Nat × Nat) := [(42, 110)]
def zQx28 : List zSp := []
theorem zK28 : zcks LL TTl zMx28 zEx28 zYx28 zNx28 zXx28 zQx28 22 100000 zNx28 = true := by decide +kernel
theorem zO28 : SmOk LL zSx28 := sm_ok (D := 22) (fu := 100000) (SP := zQx28) (NP := zYx28) (ND := zNx28) LL_1 TTl_ok ze28 (zcks_ok zK28) (c := .ofNat 10) rfl List.mem_cons_self
/-- outcome0 -/
def zMx29 : List Nat := [88]
def zTx29 : zS := ([(5, (0, 1, .ofNat 0)), (0, (2, 86, .ofNat 0)), (1, (2, 4, .ofNat 0)), (2, (0, 2, .ofNat 0)), (3, (0, 3, .ofNat 0)), (4, (0, 4, .ofNat 0))], [], [], [(0, .ofNat 0, .ofNat 160), (2, .negSucc 2147483647, .ofNat 2147483647), (3, .negSucc 2147483647, .ofNat 2147483647), (4, .negSucc 2147483647, .ofNat 2147483647)], [], 5)
def zXx29 : zS := ([], [(1, 2, .ofNat 0)], [], [(2, .negSucc 9223372036854775807, .ofNat 9223372036854775807)], [], 3)
def zSx29 : zSm := (41, 24, zTx29, zXx29, zMx29)
def zn29_0 : zNd := (41, 0, zTx29, [], .ofNat 14, [])
def zn29_1 : zNd := (41, 93, ([(5, (0, 1, .ofNat 0)), (0, (2, 86, .ofNat 0)), (1, (2, 4, .ofNat 0)), (2, (0, 2, .ofNat 0)), (3, (0, 3, .ofNat 0)), (4, (0, 4, .ofNat 0)), (6, (0, 5, .ofNat 0)), (7, (0, 6, .ofNat 0)), (8, (0, 7, .ofNat 0)), (9, (0, 8, .ofNat 0)), (10, (1, 9, .ofNat 0)), (12, (0, 10, .ofNat 0))], [], [], [(0, .ofNat 0, .ofNat 160), (2, .negSucc 2147483647, .ofNat 2147483647), (3, .negSucc 2147483647, .ofNat 2147483647), (4, .negSucc 2147483647, .ofNat 2147483647), (5, .ofNat 0, .ofNat 5), (6, .negSucc 2147483647, .ofNat 2147483647), (7, .negSucc 2147483647, .ofNat 2147483647), (8, .ofNat 0, .ofNat 11663), (9, .negSucc 9223372036854775807, .ofNat 9223372036854775807), (10, .ofNat 0, .ofNat 6)], [], 11), [], .ofNat 12, [(.negSucc 1, 10)])
def zNx29 : List zNd := [zn29_0, zn29_1]
def zEx29 : List zSm := [zSx28]
theorem ze29 : ∀ q ∈ zEx29, SmOk LL q := List.forall_mem_cons.mpr ⟨zO28, fun _ h => absurd h List.not_mem_nil⟩
def zYx29 : List (Nat × Nat) := [(41, 93)]
def zQx29 : List zSp := []
theorem zK29 : zcks LL TTl zMx29 zEx29 zYx29 zNx29 zXx29 zQx29 23 100000 zNx29 = true := by decide +kernel
theorem zO29 : SmOk LL zSx29 := sm_ok (D := 23) (fu := 100000) (SP := zQx29) (NP := zYx29) (ND := zNx29) LL_1 TTl_ok ze29 (zcks_ok zK29) (c := .ofNat 14) rfl List.mem_cons_self
/-- thing -/
def zMx30 : List Nat := [88]
def zTx30 : zS := ([(0, (2, 86, .ofNat 0)), (1, (2, 4, .ofNat 0)), (2, (0, 2, .ofNat 0))], [], [], [(0, .ofNat 0, .ofNat 160), (2, .negSucc 2147483647, .ofNat 2147483647)], [], 3)
def zXx30 : zS := ([], [(0, 2, .ofNat 0)], [], [(2, .negSucc 0, .ofNat 67)], [], 3)
def zSx30 : zSm := (43, 25, zTx30, zXx30, zMx30)
def zn30_0 : zNd := (43, 0, zTx30, [], .ofNat 24, [])
def zn30_1 : zNd := (43, 20, ([(0, (2, 86, .ofNat 0)), (1, (2, 4, .ofNat 0)), (2, (0, 2, .ofNat 0)), (3, (0, 3, .ofNat 0)), (4, (0, 4, .ofNat 0)), (5, (0, 5, .ofNat 0)), (6, (0, 6, .ofNat 0))], [], [], [(0, .ofNat 0, .ofNat 160), (2, .negSucc 2147483647, .ofNat 2147483647), (3, .negSucc 2147483647, .ofNat 2147483647), (4, .negSucc 2147483647, .ofNat 2147483647), (5, .negSucc 2147483647, .ofNat 2147483647), (6, .ofNat 0, .ofNat 11)], [], 7), [], .ofNat 22, [(.negSucc 1, 6)])
def zNx30 : List zNd := [zn30_0, zn30_1]
def zEx30 : List zSm := [zSx1, zSx29]
theorem ze30 : ∀ q ∈ zEx30, SmOk LL q := List.forall_mem_cons.mpr ⟨zO1, List.forall_mem_cons.mpr ⟨zO29, fun _ h => absurd h List.not_mem_nil⟩⟩
def zYx30 : List (Nat × Nat) := [(43, 20)]
def zQx30 : List zSp := []
theorem zK30 : zcks LL TTl zMx30 zEx30 zYx30 zNx30 zXx30 zQx30 24 100000 zNx30 = true := by decide +kernel
theorem zO30 : SmOk LL zSx30 := sm_ok (D := 24) (fu := 100000) (SP := zQx30) (NP := zYx30) (ND := zNx30) LL_1 TTl_ok ze30 (zcks_ok zK30) (c := .ofNat 24) rfl List.mem_cons_self
