/-! the checker on the methods, printed -/
/-- laysTurnsA -/
def zMx64 : List Nat := [94, 95]
def zTx64 : zS := ([(0, (2, 89, .ofNat 0))], [], [(90, zWr (.inr (0, 26, .ofNat 0)))], (26, .ofNat 0, .ofNat 6) :: zWB, zWF, 27)
def zXx64 : zS := ([], [], [], [], [], 2)
def zSx64 : zSm := (125, 3, zTx64, zXx64, zMx64)
def zn64_0 : zNd := (125, 0, zTx64, [], .ofNat 7, [])
def zn64_1 : zNd := (125, 22, ([(1, (0, 1, .ofNat 0)), (0, (2, 89, .ofNat 0))], [], [(90, zWr (.inr (0, 26, .ofNat 0)))], (26, .ofNat 0, .ofNat 6) :: zWB, zWF, 27), [], .ofNat 6, [])
def zn64_2 : zNd := (125, 22, ([(1, (0, 1, .ofNat 1)), (0, (2, 89, .ofNat 0)), (2, (0, 26, .ofNat 0)), (3, (0, 27, .ofNat 0))], [], [(90, zWr (.inr (0, 28, .ofNat 0)))], (26, .negSucc 0, .ofNat 3) :: (27, .ofNat 0, .ofNat 4) :: (28, .ofNat 0, .ofNat 6) :: zWB, zWF, 29), [], .ofNat 5, [])
def zn64_3 : zNd := (125, 22, ([(1, (0, 1, .ofNat 2)), (0, (2, 89, .ofNat 0)), (2, (0, 26, .ofNat 0)), (3, (0, 27, .ofNat 0))], [], [(90, zWr (.inr (0, 28, .ofNat 0)))], (26, .negSucc 0, .ofNat 3) :: (27, .ofNat 0, .ofNat 4) :: (28, .ofNat 0, .ofNat 6) :: zWB, zWF, 29), [], .ofNat 4, [])
def zn64_4 : zNd := (125, 22, ([(1, (0, 1, .ofNat 3)), (0, (2, 89, .ofNat 0)), (2, (0, 26, .ofNat 0)), (3, (0, 27, .ofNat 0))], [], [(90, zWr (.inr (0, 28, .ofNat 0)))], (26, .negSucc 0, .ofNat 3) :: (27, .ofNat 0, .ofNat 4) :: (28, .ofNat 0, .ofNat 6) :: zWB, zWF, 29), [], .ofNat 3, [])
def zn64_5 : zNd := (125, 22, ([(1, (0, 1, .ofNat 4)), (0, (2, 89, .ofNat 0)), (2, (0, 26, .ofNat 0)), (3, (0, 27, .ofNat 0))], [], [(90, zWr (.inr (0, 28, .ofNat 0)))], (26, .negSucc 0, .ofNat 3) :: (27, .ofNat 0, .ofNat 4) :: (28, .ofNat 0, .ofNat 6) :: zWB, zWF, 29), [], .ofNat 2, [])
def zn64_6 : zNd := (125, 22, ([(1, (0, 1, .ofNat 5)), (0, (2, 89, .ofNat 0)), (2, (0, 26, .ofNat 0)), (3, (0, 27, .ofNat 0))], [], [(90, zWr (.inr (0, 28, .ofNat 0)))], (26, .negSucc 0, .ofNat 3) :: (27, .ofNat 0, .ofNat 4) :: (28, .ofNat 0, .ofNat 6) :: zWB, zWF, 29), [], .ofNat 1, [])
def zn64_7 : zNd := (125, 22, ([(1, (0, 1, .ofNat 6)), (0, (2, 89, .ofNat 0)), (2, (0, 26, .ofNat 0)), (3, (0, 27, .ofNat 0))], [], [(90, zWr (.inr (0, 28, .ofNat 0)))], (26, .negSucc 0, .ofNat 3) :: (27, .ofNat 0, .ofNat 4) :: (28, .ofNat 0, .ofNat 6) :: zWB, zWF, 29), [], .ofNat 0, [])
def zNx64 : List zNd := [zn64_0, zn64_1, zn64_2, zn64_3, zn64_4, zn64_5, zn64_6, zn64_7]
def zEx64 : List zSm := [zSx55]
theorem ze64 : ∀ q ∈ zEx64, SmOk LL q := List.forall_mem_cons.mpr ⟨zO55, fun _ h => absurd h List.not_mem_nil⟩
def zYx64 : List (Nat × Nat) := [(125, 22)]
def zQx64 : List zSp := []
theorem zK64_0 : zcks LL TTl zMx64 zEx64 zYx64 zNx64 zXx64 zQx64 2 100000 [zn64_0, zn64_1, zn64_2] = true := by decide +kernel
theorem zK64_1 : zcks LL TTl zMx64 zEx64 zYx64 zNx64 zXx64 zQx64 2 100000 [zn64_3, zn64_4] = true := by decide +kernel
theorem zK64_2 : zcks LL TTl zMx64 zEx64 zYx64 zNx64 zXx64 zQx64 2 100000 [zn64_5, zn64_6, zn64_7] = true := by decide +kernel
theorem zk64 : ∀ nd ∈ zNx64, zck LL TTl zMx64 zEx64 zYx64 zNx64 zXx64 zQx64 2 100000 nd = true := zck2 (zcks_ok zK64_0) (zck2 (zcks_ok zK64_1) (zcks_ok zK64_2))
theorem zO64 : SmOk LL zSx64 := sm_ok (D := 2) (fu := 100000) (SP := zQx64) (NP := zYx64) (ND := zNx64) LL_1 TTl_ok ze64 zk64 (c := .ofNat 7) rfl List.mem_cons_self
/-- sumOf -/
def zMx65 : List Nat := []
def zTx65 : zS := ([(0, (2, 89, .ofNat 0)), (1, (0, 26, .ofNat 0))], [], [(90, zWr (.inr (0, 27, .ofNat 0)))], (26, .ofNat 0, .ofNat 3) :: (27, .ofNat 0, .ofNat 6) :: zWB, zWF, 28)
def zXx65 : zS := ([], [(0, 2, .ofNat 0)], [], [(2, .negSucc 2147483647, .ofNat 2147483647)], [], 3)
def zSx65 : zSm := (129, 2, zTx65, zXx65, zMx65)
def zn65_0 : zNd := (129, 0, zTx65, [], .ofNat 14, [])
def zn65_1 : zNd := (129, 4, ([(0, (2, 89, .ofNat 0)), (1, (0, 26, .ofNat 0)), (2, (0, 27, .ofNat 0)), (3, (0, 28, .ofNat 0))], [], [(90, zWr (.inr (0, 29, .ofNat 0)))], (26, .ofNat 0, .ofNat 3) :: (27, .negSucc 2147483647, .ofNat 2147483647) :: (28, .ofNat 0, .ofNat 6) :: (29, .ofNat 0, .ofNat 6) :: zWB, zWF, 30), [], .ofNat 12, [(.negSucc 1, 28)])
def zNx65 : List zNd := [zn65_0, zn65_1]
def zEx65 : List zSm := []
theorem ze65 : ∀ q ∈ zEx65, SmOk LL q := fun _ h => absurd h List.not_mem_nil
def zYx65 : List (Nat × Nat) := [(129, 4)]
def zQx65 : List zSp := []
theorem zK65 : zcks LL TTl zMx65 zEx65 zYx65 zNx65 zXx65 zQx65 1 100000 zNx65 = true := by decide +kernel
theorem zO65 : SmOk LL zSx65 := sm_ok (D := 1) (fu := 100000) (SP := zQx65) (NP := zYx65) (ND := zNx65) LL_1 TTl_ok ze65 (zcks_ok zK65) (c := .ofNat 14) rfl List.mem_cons_self
/-- worths -/
def zMx66 : List Nat := []
def zTx66 : zS := ([(0, (2, 89, .ofNat 0)), (1, (0, 26, .ofNat 0))], [], [(90, zWr (.inr (0, 27, .ofNat 0)))], (26, .ofNat 0, .ofNat 3) :: (27, .ofNat 0, .ofNat 6) :: zWB, zWF, 28)
def zXx66 : zS := ([], [(0, 2, .ofNat 0)], [], [(2, .negSucc 2147483647, .ofNat 2147483647)], [], 3)
def zSx66 : zSm := (130, 2, zTx66, zXx66, zMx66)
def zn66_0 : zNd := (130, 0, zTx66, [], .ofNat 14, [])
def zn66_1 : zNd := (130, 4, ([(0, (2, 89, .ofNat 0)), (1, (0, 26, .ofNat 0)), (2, (0, 27, .ofNat 0)), (3, (0, 28, .ofNat 0))], [], [(90, zWr (.inr (0, 29, .ofNat 0)))], (26, .ofNat 0, .ofNat 3) :: (27, .negSucc 2147483647, .ofNat 2147483647) :: (28, .ofNat 0, .ofNat 6) :: (29, .ofNat 0, .ofNat 6) :: zWB, zWF, 30), [], .ofNat 12, [(.negSucc 1, 28)])
def zNx66 : List zNd := [zn66_0, zn66_1]
def zEx66 : List zSm := []
theorem ze66 : ∀ q ∈ zEx66, SmOk LL q := fun _ h => absurd h List.not_mem_nil
def zYx66 : List (Nat × Nat) := [(130, 4)]
def zQx66 : List zSp := []
theorem zK66 : zcks LL TTl zMx66 zEx66 zYx66 zNx66 zXx66 zQx66 1 100000 zNx66 = true := by decide +kernel
theorem zO66 : SmOk LL zSx66 := sm_ok (D := 1) (fu := 100000) (SP := zQx66) (NP := zYx66) (ND := zNx66) LL_1 TTl_ok ze66 (zcks_ok zK66) (c := .ofNat 14) rfl List.mem_cons_self
/-- laysAsked -/
def zMx67 : List Nat := [89, 98]
def zTx67 : zS := ([(0, (2, 89, .ofNat 0)), (1, (0, 26, .ofNat 0))], [], [(90, zWr (.inr (0, 27, .ofNat 0)))], (26, .negSucc 2147483647, .ofNat 2147483647) :: (27, .ofNat 0, .ofNat 6) :: zWB, zWF, 28)
def zXx67 : zS := ([], [], [], [], [], 2)
def zSx67 : zSm := (148, 1, zTx67, zXx67, zMx67)
def zn67_0 : zNd := (148, 0, zTx67, [], .ofNat 5, [])
def zn67_1 : zNd := (148, 7, ([(2, (0, 1, .ofNat 0)), (0, (2, 89, .ofNat 0)), (1, (0, 26, .ofNat 0))], [], [(90, zWr (.inr (0, 27, .ofNat 0))), (89, .inr (.inr (.inr (.inr (5, [zp 90, .inl (.ofNat 0, .ofNat 6), zp 91, zp 92, .inr (0, 0, .ofNat 0), zp 93, .inl (.ofNat 0, .ofNat 160), zi, zi, zi, zi, zi, zp 94, zp 95, zp 96, zp 97, zp 98, .inr (0, 1, .ofNat 0), zp 99, .inl (.negSucc 0, .ofNat 3)])))))], (26, .negSucc 2147483647, .ofNat 2147483647) :: (27, .ofNat 0, .ofNat 6) :: zWB, zWF, 28), [], .ofNat 4, [])
def zn67_2 : zNd := (148, 7, ([(2, (0, 1, .ofNat 1)), (0, (2, 89, .ofNat 0)), (1, (0, 26, .ofNat 0))], [], [(90, zWr (.inr (0, 28, .ofNat 0))), (89, .inr (.inr (.inr (.inr (5, [zp 90, .inl (.ofNat 0, .ofNat 6), zp 91, zp 92, .inr (0, 0, .ofNat 0), zp 93, .inl (.ofNat 0, .ofNat 160), zi, zi, zi, zi, zi, zp 94, zp 95, zp 96, zp 97, zp 98, .inr (0, 27, .ofNat 0), zp 99, .inl (.negSucc 0, .ofNat 3)])))))], (4, .ofNat 1, .ofNat 4) :: (26, .negSucc 2147483647, .ofNat 2147483647) :: (27, .ofNat 0, .ofNat 1) :: (28, .ofNat 0, .ofNat 6) :: zWB, zWF, 29), [], .ofNat 3, [])
def zn67_3 : zNd := (148, 7, ([(2, (0, 1, .ofNat 2)), (0, (2, 89, .ofNat 0)), (1, (0, 26, .ofNat 0))], [], [(90, zWr (.inr (0, 28, .ofNat 0))), (89, .inr (.inr (.inr (.inr (5, [zp 90, .inl (.ofNat 0, .ofNat 6), zp 91, zp 92, .inr (0, 0, .ofNat 0), zp 93, .inl (.ofNat 0, .ofNat 160), zi, zi, zi, zi, zi, zp 94, zp 95, zp 96, zp 97, zp 98, .inr (0, 27, .ofNat 0), zp 99, .inl (.negSucc 0, .ofNat 3)])))))], (4, .ofNat 2, .ofNat 4) :: (26, .negSucc 2147483647, .ofNat 2147483647) :: (27, .ofNat 0, .ofNat 2) :: (28, .ofNat 0, .ofNat 6) :: zWB, zWF, 29), [], .ofNat 2, [])
def zn67_4 : zNd := (148, 7, ([(2, (0, 1, .ofNat 3)), (0, (2, 89, .ofNat 0)), (1, (0, 26, .ofNat 0))], [], [(90, zWr (.inr (0, 28, .ofNat 0))), (89, .inr (.inr (.inr (.inr (5, [zp 90, .inl (.ofNat 0, .ofNat 6), zp 91, zp 92, .inr (0, 0, .ofNat 0), zp 93, .inl (.ofNat 0, .ofNat 160), zi, zi, zi, zi, zi, zp 94, zp 95, zp 96, zp 97, zp 98, .inr (0, 27, .ofNat 0), zp 99, .inl (.negSucc 0, .ofNat 3)])))))], (4, .ofNat 3, .ofNat 4) :: (26, .negSucc 2147483647, .ofNat 2147483647) :: (27, .ofNat 0, .ofNat 3) :: (28, .ofNat 0, .ofNat 6) :: zWB, zWF, 29), [], .ofNat 1, [])
def zn67_5 : zNd := (148, 7, ([(2, (0, 1, .ofNat 4)), (0, (2, 89, .ofNat 0)), (1, (0, 26, .ofNat 0))], [], [(90, zWr (.inr (0, 28, .ofNat 0))), (89, .inr (.inr (.inr (.inr (5, [zp 90, .inl (.ofNat 0, .ofNat 6), zp 91, zp 92, .inr (0, 0, .ofNat 0), zp 93, .inl (.ofNat 0, .ofNat 160), zi, zi, zi, zi, zi, zp 94, zp 95, zp 96, zp 97, zp 98, .inr (0, 27, .ofNat 0), zp 99, .inl (.negSucc 0, .ofNat 3)])))))], (4, .ofNat 4, .ofNat 4) :: (26, .negSucc 2147483647, .ofNat 2147483647) :: (27, .ofNat 0, .ofNat 4) :: (28, .ofNat 0, .ofNat 6) :: zWB, zWF, 29), [], .ofNat 0, [])
def zNx67 : List zNd := [zn67_0, zn67_1, zn67_2, zn67_3, zn67_4, zn67_5]
def zEx67 : List zSm := []
theorem ze67 : ∀ q ∈ zEx67, SmOk LL q := fun _ h => absurd h List.not_mem_nil
def zYx67 : List (Nat × Nat) := [(148, 7)]
def zQx67 : List zSp := []
theorem zK67 : zcks LL TTl zMx67 zEx67 zYx67 zNx67 zXx67 zQx67 0 100000 zNx67 = true := by decide +kernel
theorem zO67 : SmOk LL zSx67 := sm_ok (D := 0) (fu := 100000) (SP := zQx67) (NP := zYx67) (ND := zNx67) LL_1 TTl_ok ze67 (zcks_ok zK67) (c := .ofNat 5) rfl List.mem_cons_self
/-- tries -/
def zMx68 : List Nat := [89, 99]
def zTx68 : zS := ([(0, (2, 89, .ofNat 0)), (1, (0, 26, .ofNat 0)), (2, (0, 27, .ofNat 0)), (3, (0, 28, .ofNat 0)), (4, (0, 29, .ofNat 0)), (5, (0, 30, .ofNat 0))], [], [(90, zWr (.inr (0, 31, .ofNat 0)))], (26, .ofNat 0, .ofNat 63) :: (27, .ofNat 0, .ofNat 63) :: (28, .ofNat 0, .ofNat 15) :: (29, .negSucc 2147483647, .ofNat 2147483647) :: (30, .negSucc 0, .ofNat 5) :: (31, .ofNat 0, .ofNat 6) :: zWB, zWF, 32)
def zXx68 : zS := ([], [], [], [], [], 2)
def zSx68 : zSm := (149, 2, zTx68, zXx68, zMx68)
def zn68_0 : zNd := (149, 0, zTx68, [], .ofNat 70, [])
def zn68_1 : zNd := (149, 98, ([(5, (0, 1, .ofNat 5)), (0, (2, 89, .ofNat 0)), (1, (0, 26, .ofNat 0)), (2, (0, 27, .ofNat 0)), (3, (0, 28, .ofNat 0)), (4, (0, 29, .ofNat 0)), (6, (0, 30, .ofNat 0)), (7, (0, 31, .ofNat 0)), (8, (0, 32, .ofNat 0))], [], [(90, zWr (.inr (0, 33, .ofNat 0)))], (26, .ofNat 0, .ofNat 63) :: (27, .ofNat 0, .ofNat 63) :: (28, .ofNat 0, .ofNat 15) :: (29, .negSucc 2147483647, .ofNat 2147483647) :: (30, .ofNat 0, .ofNat 4092) :: (31, .ofNat 0, .ofNat 1) :: (32, .negSucc 0, .ofNat 3) :: (33, .ofNat 0, .ofNat 6) :: zWB, zWF, 34), [], .ofNat 2, [(.ofNat 2, 32)])
def zn68_2 : zNd := (149, 98, ([(5, (0, 1, .ofNat 4)), (0, (2, 89, .ofNat 0)), (1, (0, 26, .ofNat 0)), (2, (0, 27, .ofNat 0)), (3, (0, 28, .ofNat 0)), (4, (0, 29, .ofNat 0)), (6, (0, 30, .ofNat 0)), (7, (0, 31, .ofNat 0)), (8, (0, 32, .ofNat 0))], [], [(90, zWr (.inr (0, 33, .ofNat 0)))], (26, .ofNat 0, .ofNat 63) :: (27, .ofNat 0, .ofNat 63) :: (28, .ofNat 0, .ofNat 15) :: (29, .negSucc 2147483647, .ofNat 2147483647) :: (30, .ofNat 0, .ofNat 4092) :: (31, .ofNat 0, .ofNat 1) :: (32, .negSucc 0, .ofNat 3) :: (33, .ofNat 0, .ofNat 6) :: zWB, zWF, 34), [], .ofNat 12, [(.ofNat 2, 32)])
def zn68_3 : zNd := (149, 98, ([(5, (0, 1, .ofNat 3)), (0, (2, 89, .ofNat 0)), (1, (0, 26, .ofNat 0)), (2, (0, 27, .ofNat 0)), (3, (0, 28, .ofNat 0)), (4, (0, 29, .ofNat 0)), (6, (0, 30, .ofNat 0)), (7, (0, 31, .ofNat 0)), (8, (0, 32, .ofNat 0))], [], [(90, zWr (.inr (0, 33, .ofNat 0)))], (26, .ofNat 0, .ofNat 63) :: (27, .ofNat 0, .ofNat 63) :: (28, .ofNat 0, .ofNat 15) :: (29, .negSucc 2147483647, .ofNat 2147483647) :: (30, .ofNat 0, .ofNat 4092) :: (31, .ofNat 0, .ofNat 1) :: (32, .negSucc 0, .ofNat 3) :: (33, .ofNat 0, .ofNat 6) :: zWB, zWF, 34), [], .ofNat 22, [(.ofNat 2, 32)])
def zn68_4 : zNd := (149, 98, ([(5, (0, 1, .ofNat 2)), (0, (2, 89, .ofNat 0)), (1, (0, 26, .ofNat 0)), (2, (0, 27, .ofNat 0)), (3, (0, 28, .ofNat 0)), (4, (0, 29, .ofNat 0)), (6, (0, 30, .ofNat 0)), (7, (0, 31, .ofNat 0)), (8, (0, 32, .ofNat 0))], [], [(90, zWr (.inr (0, 33, .ofNat 0)))], (26, .ofNat 0, .ofNat 63) :: (27, .ofNat 0, .ofNat 63) :: (28, .ofNat 0, .ofNat 15) :: (29, .negSucc 2147483647, .ofNat 2147483647) :: (30, .ofNat 0, .ofNat 4092) :: (31, .ofNat 0, .ofNat 1) :: (32, .negSucc 0, .ofNat 3) :: (33, .ofNat 0, .ofNat 6) :: zWB, zWF, 34), [], .ofNat 32, [(.ofNat 2, 32)])
def zn68_5 : zNd := (149, 98, ([(5, (0, 1, .ofNat 1)), (0, (2, 89, .ofNat 0)), (1, (0, 26, .ofNat 0)), (2, (0, 27, .ofNat 0)), (3, (0, 28, .ofNat 0)), (4, (0, 29, .ofNat 0)), (6, (0, 30, .ofNat 0)), (7, (0, 31, .ofNat 0)), (8, (0, 32, .ofNat 0))], [], [(90, zWr (.inr (0, 33, .ofNat 0)))], (26, .ofNat 0, .ofNat 63) :: (27, .ofNat 0, .ofNat 63) :: (28, .ofNat 0, .ofNat 15) :: (29, .negSucc 2147483647, .ofNat 2147483647) :: (30, .ofNat 0, .ofNat 4092) :: (31, .ofNat 0, .ofNat 1) :: (32, .negSucc 0, .ofNat 3) :: (33, .ofNat 0, .ofNat 6) :: zWB, zWF, 34), [], .ofNat 42, [(.ofNat 2, 32)])
def zn68_6 : zNd := (149, 98, ([(5, (0, 1, .ofNat 0)), (0, (2, 89, .ofNat 0)), (1, (0, 26, .ofNat 0)), (2, (0, 27, .ofNat 0)), (3, (0, 28, .ofNat 0)), (4, (0, 29, .ofNat 0)), (6, (0, 30, .ofNat 0)), (7, (0, 31, .ofNat 0)), (8, (0, 32, .ofNat 0))], [], [(90, zWr (.inr (0, 33, .ofNat 0)))], (26, .ofNat 0, .ofNat 63) :: (27, .ofNat 0, .ofNat 63) :: (28, .ofNat 0, .ofNat 15) :: (29, .negSucc 2147483647, .ofNat 2147483647) :: (30, .ofNat 0, .ofNat 4092) :: (31, .ofNat 0, .ofNat 1) :: (32, .negSucc 0, .ofNat 3) :: (33, .ofNat 0, .ofNat 6) :: zWB, zWF, 34), [], .ofNat 52, [(.ofNat 2, 32)])
def zn68_7 : zNd := (149, 98, ([(5, (0, 1, .negSucc 0)), (7, (0, 1, .ofNat 0)), (0, (2, 89, .ofNat 0)), (1, (0, 26, .ofNat 0)), (2, (0, 27, .ofNat 0)), (3, (0, 28, .ofNat 0)), (4, (0, 29, .ofNat 0)), (6, (0, 30, .ofNat 0)), (8, (0, 31, .ofNat 0))], [], [(90, zWr (.inr (0, 32, .ofNat 0)))], (26, .ofNat 0, .ofNat 63) :: (27, .ofNat 0, .ofNat 63) :: (28, .ofNat 0, .ofNat 15) :: (29, .negSucc 2147483647, .ofNat 2147483647) :: (30, .ofNat 0, .ofNat 4092) :: (31, .negSucc 0, .ofNat 3) :: (32, .ofNat 0, .ofNat 6) :: zWB, zWF, 33), [], .ofNat 62, [(.ofNat 2, 31)])
def zNx68 : List zNd := [zn68_0, zn68_1, zn68_2, zn68_3, zn68_4, zn68_5, zn68_6, zn68_7]
def zEx68 : List zSm := []
theorem ze68 : ∀ q ∈ zEx68, SmOk LL q := fun _ h => absurd h List.not_mem_nil
def zYx68 : List (Nat × Nat) := [(149, 98)]
def zQx68 : List zSp := [(149, 0, 0, 5, 0, none)]
theorem zK68_0 : zcks LL TTl zMx68 zEx68 zYx68 zNx68 zXx68 zQx68 1 100000 [zn68_0] = true := by decide +kernel
theorem zK68_1 : zcks LL TTl zMx68 zEx68 zYx68 zNx68 zXx68 zQx68 1 100000 [zn68_1, zn68_2, zn68_3, zn68_4, zn68_5, zn68_6, zn68_7] = true := by decide +kernel
theorem zk68 : ∀ nd ∈ zNx68, zck LL TTl zMx68 zEx68 zYx68 zNx68 zXx68 zQx68 1 100000 nd = true := zck2 (zcks_ok zK68_0) (zcks_ok zK68_1)
theorem zO68 : SmOk LL zSx68 := sm_ok (D := 1) (fu := 100000) (SP := zQx68) (NP := zYx68) (ND := zNx68) LL_1 TTl_ok ze68 zk68 (c := .ofNat 70) rfl List.mem_cons_self
/-- chosen -/
def zMx69 : List Nat := [89, 99]
def zTx69 : zS := ([(0, (2, 89, .ofNat 0)), (1, (0, 26, .ofNat 0)), (2, (0, 27, .ofNat 0)), (3, (0, 28, .ofNat 0)), (4, (0, 29, .ofNat 0))], [], [(90, zWr (.inr (0, 30, .ofNat 0)))], (26, .ofNat 0, .ofNat 63) :: (27, .ofNat 0, .ofNat 63) :: (28, .ofNat 0, .ofNat 15) :: (29, .ofNat 0, .ofNat 3) :: (30, .ofNat 0, .ofNat 6) :: zWB, zWF, 31)
def zXx69 : zS := ([], [(0, 2, .ofNat 0)], [], [(2, .negSucc 0, .ofNat 5)], [], 3)
def zSx69 : zSm := (150, 3, zTx69, zXx69, zMx69)
def zn69_0 : zNd := (150, 0, zTx69, [], .ofNat 14, [])
def zn69_1 : zNd := (150, 9, ([(0, (2, 89, .ofNat 0)), (1, (0, 26, .ofNat 0)), (2, (0, 27, .ofNat 0)), (3, (0, 28, .ofNat 0)), (4, (0, 29, .ofNat 0)), (5, (0, 30, .ofNat 0)), (6, (0, 31, .ofNat 0)), (7, (0, 32, .ofNat 0))], [], [(90, zWr (.inr (0, 33, .ofNat 0)))], (26, .ofNat 0, .ofNat 63) :: (27, .ofNat 0, .ofNat 63) :: (28, .ofNat 0, .ofNat 15) :: (29, .ofNat 0, .ofNat 3) :: (30, .negSucc 0, .ofNat 5) :: (31, .negSucc 2147483647, .ofNat 2147483647) :: (32, .ofNat 0, .ofNat 6) :: (33, .ofNat 0, .ofNat 6) :: zWB, zWF, 34), [], .ofNat 12, [(.negSucc 1, 32)])
def zNx69 : List zNd := [zn69_0, zn69_1]
def zEx69 : List zSm := [zSx68]
theorem ze69 : ∀ q ∈ zEx69, SmOk LL q := List.forall_mem_cons.mpr ⟨zO68, fun _ h => absurd h List.not_mem_nil⟩
def zYx69 : List (Nat × Nat) := [(150, 9)]
def zQx69 : List zSp := []
theorem zK69 : zcks LL TTl zMx69 zEx69 zYx69 zNx69 zXx69 zQx69 2 100000 zNx69 = true := by decide +kernel
theorem zO69 : SmOk LL zSx69 := sm_ok (D := 2) (fu := 100000) (SP := zQx69) (NP := zYx69) (ND := zNx69) LL_1 TTl_ok ze69 (zcks_ok zK69) (c := .ofNat 14) rfl List.mem_cons_self
/-- triesM -/
def zMx70 : List Nat := [89, 99]
def zTx70 : zS := ([(0, (2, 89, .ofNat 0)), (1, (0, 26, .ofNat 0)), (2, (0, 27, .ofNat 0)), (3, (0, 28, .ofNat 0)), (4, (0, 29, .ofNat 0)), (5, (0, 30, .ofNat 0))], [], [(90, zWr (.inr (0, 31, .ofNat 0)))], (26, .ofNat 0, .ofNat 63) :: (27, .negSucc 2147483647, .negSucc 2147483584) :: (28, .ofNat 0, .ofNat 15) :: (29, .negSucc 2147483647, .ofNat 2147483647) :: (30, .negSucc 0, .ofNat 5) :: (31, .ofNat 0, .ofNat 6) :: zWB, zWF, 32)
def zXx70 : zS := ([], [], [], [], [], 2)
def zSx70 : zSm := (149, 2, zTx70, zXx70, zMx70)
def zn70_0 : zNd := (149, 0, zTx70, [], .ofNat 70, [])
def zn70_1 : zNd := (149, 98, ([(5, (0, 1, .ofNat 5)), (0, (2, 89, .ofNat 0)), (1, (0, 26, .ofNat 0)), (2, (0, 27, .ofNat 0)), (3, (0, 28, .ofNat 0)), (4, (0, 29, .ofNat 0)), (6, (0, 30, .ofNat 0)), (7, (0, 31, .ofNat 0)), (8, (0, 32, .ofNat 0))], [], [(90, zWr (.inr (0, 33, .ofNat 0)))], (26, .ofNat 0, .ofNat 63) :: (27, .negSucc 2147483647, .negSucc 2147483584) :: (28, .ofNat 0, .ofNat 15) :: (29, .negSucc 2147483647, .ofNat 2147483647) :: (30, .ofNat 0, .ofNat 4092) :: (31, .ofNat 0, .ofNat 1) :: (32, .negSucc 0, .ofNat 3) :: (33, .ofNat 0, .ofNat 6) :: zWB, zWF, 34), [], .ofNat 2, [(.ofNat 2, 32)])
def zn70_2 : zNd := (149, 98, ([(5, (0, 1, .ofNat 4)), (0, (2, 89, .ofNat 0)), (1, (0, 26, .ofNat 0)), (2, (0, 27, .ofNat 0)), (3, (0, 28, .ofNat 0)), (4, (0, 29, .ofNat 0)), (6, (0, 30, .ofNat 0)), (7, (0, 31, .ofNat 0)), (8, (0, 32, .ofNat 0))], [], [(90, zWr (.inr (0, 33, .ofNat 0)))], (26, .ofNat 0, .ofNat 63) :: (27, .negSucc 2147483647, .negSucc 2147483584) :: (28, .ofNat 0, .ofNat 15) :: (29, .negSucc 2147483647, .ofNat 2147483647) :: (30, .ofNat 0, .ofNat 4092) :: (31, .ofNat 0, .ofNat 1) :: (32, .negSucc 0, .ofNat 3) :: (33, .ofNat 0, .ofNat 6) :: zWB, zWF, 34), [], .ofNat 12, [(.ofNat 2, 32)])
def zn70_3 : zNd := (149, 98, ([(5, (0, 1, .ofNat 3)), (0, (2, 89, .ofNat 0)), (1, (0, 26, .ofNat 0)), (2, (0, 27, .ofNat 0)), (3, (0, 28, .ofNat 0)), (4, (0, 29, .ofNat 0)), (6, (0, 30, .ofNat 0)), (7, (0, 31, .ofNat 0)), (8, (0, 32, .ofNat 0))], [], [(90, zWr (.inr (0, 33, .ofNat 0)))], (26, .ofNat 0, .ofNat 63) :: (27, .negSucc 2147483647, .negSucc 2147483584) :: (28, .ofNat 0, .ofNat 15) :: (29, .negSucc 2147483647, .ofNat 2147483647) :: (30, .ofNat 0, .ofNat 4092) :: (31, .ofNat 0, .ofNat 1) :: (32, .negSucc 0, .ofNat 3) :: (33, .ofNat 0, .ofNat 6) :: zWB, zWF, 34), [], .ofNat 22, [(.ofNat 2, 32)])
def zn70_4 : zNd := (149, 98, ([(5, (0, 1, .ofNat 2)), (0, (2, 89, .ofNat 0)), (1, (0, 26, .ofNat 0)), (2, (0, 27, .ofNat 0)), (3, (0, 28, .ofNat 0)), (4, (0, 29, .ofNat 0)), (6, (0, 30, .ofNat 0)), (7, (0, 31, .ofNat 0)), (8, (0, 32, .ofNat 0))], [], [(90, zWr (.inr (0, 33, .ofNat 0)))], (26, .ofNat 0, .ofNat 63) :: (27, .negSucc 2147483647, .negSucc 2147483584) :: (28, .ofNat 0, .ofNat 15) :: (29, .negSucc 2147483647, .ofNat 2147483647) :: (30, .ofNat 0, .ofNat 4092) :: (31, .ofNat 0, .ofNat 1) :: (32, .negSucc 0, .ofNat 3) :: (33, .ofNat 0, .ofNat 6) :: zWB, zWF, 34), [], .ofNat 32, [(.ofNat 2, 32)])
def zn70_5 : zNd := (149, 98, ([(5, (0, 1, .ofNat 1)), (0, (2, 89, .ofNat 0)), (1, (0, 26, .ofNat 0)), (2, (0, 27, .ofNat 0)), (3, (0, 28, .ofNat 0)), (4, (0, 29, .ofNat 0)), (6, (0, 30, .ofNat 0)), (7, (0, 31, .ofNat 0)), (8, (0, 32, .ofNat 0))], [], [(90, zWr (.inr (0, 33, .ofNat 0)))], (26, .ofNat 0, .ofNat 63) :: (27, .negSucc 2147483647, .negSucc 2147483584) :: (28, .ofNat 0, .ofNat 15) :: (29, .negSucc 2147483647, .ofNat 2147483647) :: (30, .ofNat 0, .ofNat 4092) :: (31, .ofNat 0, .ofNat 1) :: (32, .negSucc 0, .ofNat 3) :: (33, .ofNat 0, .ofNat 6) :: zWB, zWF, 34), [], .ofNat 42, [(.ofNat 2, 32)])
def zn70_6 : zNd := (149, 98, ([(5, (0, 1, .ofNat 0)), (0, (2, 89, .ofNat 0)), (1, (0, 26, .ofNat 0)), (2, (0, 27, .ofNat 0)), (3, (0, 28, .ofNat 0)), (4, (0, 29, .ofNat 0)), (6, (0, 30, .ofNat 0)), (7, (0, 31, .ofNat 0)), (8, (0, 32, .ofNat 0))], [], [(90, zWr (.inr (0, 33, .ofNat 0)))], (26, .ofNat 0, .ofNat 63) :: (27, .negSucc 2147483647, .negSucc 2147483584) :: (28, .ofNat 0, .ofNat 15) :: (29, .negSucc 2147483647, .ofNat 2147483647) :: (30, .ofNat 0, .ofNat 4092) :: (31, .ofNat 0, .ofNat 1) :: (32, .negSucc 0, .ofNat 3) :: (33, .ofNat 0, .ofNat 6) :: zWB, zWF, 34), [], .ofNat 52, [(.ofNat 2, 32)])
def zn70_7 : zNd := (149, 98, ([(5, (0, 1, .negSucc 0)), (7, (0, 1, .ofNat 0)), (0, (2, 89, .ofNat 0)), (1, (0, 26, .ofNat 0)), (2, (0, 27, .ofNat 0)), (3, (0, 28, .ofNat 0)), (4, (0, 29, .ofNat 0)), (6, (0, 30, .ofNat 0)), (8, (0, 31, .ofNat 0))], [], [(90, zWr (.inr (0, 32, .ofNat 0)))], (26, .ofNat 0, .ofNat 63) :: (27, .negSucc 2147483647, .negSucc 2147483584) :: (28, .ofNat 0, .ofNat 15) :: (29, .negSucc 2147483647, .ofNat 2147483647) :: (30, .ofNat 0, .ofNat 4092) :: (31, .negSucc 0, .ofNat 3) :: (32, .ofNat 0, .ofNat 6) :: zWB, zWF, 33), [], .ofNat 62, [(.ofNat 2, 31)])
def zNx70 : List zNd := [zn70_0, zn70_1, zn70_2, zn70_3, zn70_4, zn70_5, zn70_6, zn70_7]
def zEx70 : List zSm := []
theorem ze70 : ∀ q ∈ zEx70, SmOk LL q := fun _ h => absurd h List.not_mem_nil
def zYx70 : List (Nat × Nat) := [(149, 98)]
def zQx70 : List zSp := [(149, 0, 0, 5, 0, none)]
theorem zK70_0 : zcks LL TTl zMx70 zEx70 zYx70 zNx70 zXx70 zQx70 1 100000 [zn70_0] = true := by decide +kernel
theorem zK70_1 : zcks LL TTl zMx70 zEx70 zYx70 zNx70 zXx70 zQx70 1 100000 [zn70_1, zn70_2, zn70_3, zn70_4, zn70_5, zn70_6, zn70_7] = true := by decide +kernel
theorem zk70 : ∀ nd ∈ zNx70, zck LL TTl zMx70 zEx70 zYx70 zNx70 zXx70 zQx70 1 100000 nd = true := zck2 (zcks_ok zK70_0) (zcks_ok zK70_1)
theorem zO70 : SmOk LL zSx70 := sm_ok (D := 1) (fu := 100000) (SP := zQx70) (NP := zYx70) (ND := zNx70) LL_1 TTl_ok ze70 zk70 (c := .ofNat 70) rfl List.mem_cons_self
/-- chosenM -/
def zMx71 : List Nat := [89, 99]
def zTx71 : zS := ([(0, (2, 89, .ofNat 0)), (1, (0, 26, .ofNat 0)), (2, (0, 27, .ofNat 0)), (3, (0, 28, .ofNat 0)), (4, (0, 29, .ofNat 0))], [], [(90, zWr (.inr (0, 30, .ofNat 0)))], (26, .ofNat 0, .ofNat 63) :: (27, .negSucc 2147483647, .negSucc 2147483584) :: (28, .ofNat 0, .ofNat 15) :: (29, .ofNat 0, .ofNat 3) :: (30, .ofNat 0, .ofNat 6) :: zWB, zWF, 31)
def zXx71 : zS := ([], [(0, 2, .ofNat 0)], [], [(2, .negSucc 0, .ofNat 5)], [], 3)
def zSx71 : zSm := (150, 3, zTx71, zXx71, zMx71)
def zn71_0 : zNd := (150, 0, zTx71, [], .ofNat 14, [])
def zn71_1 : zNd := (150, 9, ([(0, (2, 89, .ofNat 0)), (1, (0, 26, .ofNat 0)), (2, (0, 27, .ofNat 0)), (3, (0, 28, .ofNat 0)), (4, (0, 29, .ofNat 0)), (5, (0, 30, .ofNat 0)), (6, (0, 31, .ofNat 0)), (7, (0, 32, .ofNat 0))], [], [(90, zWr (.inr (0, 33, .ofNat 0)))], (26, .ofNat 0, .ofNat 63) :: (27, .negSucc 2147483647, .negSucc 2147483584) :: (28, .ofNat 0, .ofNat 15) :: (29, .ofNat 0, .ofNat 3) :: (30, .negSucc 0, .ofNat 5) :: (31, .negSucc 2147483647, .ofNat 2147483647) :: (32, .ofNat 0, .ofNat 6) :: (33, .ofNat 0, .ofNat 6) :: zWB, zWF, 34), [], .ofNat 12, [(.negSucc 1, 32)])
def zNx71 : List zNd := [zn71_0, zn71_1]
def zEx71 : List zSm := [zSx70]
theorem ze71 : ∀ q ∈ zEx71, SmOk LL q := List.forall_mem_cons.mpr ⟨zO70, fun _ h => absurd h List.not_mem_nil⟩
def zYx71 : List (Nat × Nat) := [(150, 9)]
def zQx71 : List zSp := []
theorem zK71 : zcks LL TTl zMx71 zEx71 zYx71 zNx71 zXx71 zQx71 2 100000 zNx71 = true := by decide +kernel
theorem zO71 : SmOk LL zSx71 := sm_ok (D := 2) (fu := 100000) (SP := zQx71) (NP := zYx71) (ND := zNx71) LL_1 TTl_ok ze71 (zcks_ok zK71) (c := .ofNat 14) rfl List.mem_cons_self
/-- left0 -/
def zMx72 : List Nat := []
def zTx72 : zS := ([(0, (2, 89, .ofNat 0))], [], [(90, zWr (.inr (0, 1, .ofNat 0)))], zWB, zWF, 26)
def zXx72 : zS := ([], [(0, 1, .ofNat 0)], [], [], [], 2)
def zSx72 : zSm := (142, 1, zTx72, zXx72, zMx72)
def zn72_0 : zNd := (142, 0, zTx72, [], .ofNat 0, [])
def zNx72 : List zNd := [zn72_0]
def zEx72 : List zSm := []
theorem ze72 : ∀ q ∈ zEx72, SmOk LL q := fun _ h => absurd h List.not_mem_nil
def zYx72 : List (Nat × Nat) := []
def zQx72 : List zSp := []
theorem zK72 : zcks LL TTl zMx72 zEx72 zYx72 zNx72 zXx72 zQx72 0 100000 zNx72 = true := by decide +kernel
theorem zO72 : SmOk LL zSx72 := sm_ok (D := 0) (fu := 100000) (SP := zQx72) (NP := zYx72) (ND := zNx72) LL_1 TTl_ok ze72 (zcks_ok zK72) (c := .ofNat 0) rfl List.mem_cons_self
/-- left1 -/
def zMx73 : List Nat := []
def zTx73 : zS := ([(0, (2, 89, .ofNat 0))], [], [(90, zWr (.inr (0, 1, .ofNat 1)))], zWB, zWF, 26)
def zXx73 : zS := ([], [(0, 2, .ofNat 0)], [], [(2, .ofNat 0, .ofNat 1)], [], 3)
def zSx73 : zSm := (142, 1, zTx73, zXx73, zMx73)
def zn73_0 : zNd := (142, 0, zTx73, [], .ofNat 0, [])
def zNx73 : List zNd := [zn73_0]
def zEx73 : List zSm := []
theorem ze73 : ∀ q ∈ zEx73, SmOk LL q := fun _ h => absurd h List.not_mem_nil
def zYx73 : List (Nat × Nat) := []
def zQx73 : List zSp := []
theorem zK73 : zcks LL TTl zMx73 zEx73 zYx73 zNx73 zXx73 zQx73 0 100000 zNx73 = true := by decide +kernel
theorem zO73 : SmOk LL zSx73 := sm_ok (D := 0) (fu := 100000) (SP := zQx73) (NP := zYx73) (ND := zNx73) LL_1 TTl_ok ze73 (zcks_ok zK73) (c := .ofNat 0) rfl List.mem_cons_self
/-- left2 -/
def zMx74 : List Nat := []
def zTx74 : zS := ([(0, (2, 89, .ofNat 0))], [], [(90, zWr (.inr (0, 1, .ofNat 2)))], zWB, zWF, 26)
def zXx74 : zS := ([], [(0, 2, .ofNat 0)], [], [(2, .ofNat 0, .ofNat 3)], [], 3)
def zSx74 : zSm := (142, 1, zTx74, zXx74, zMx74)
def zn74_0 : zNd := (142, 0, zTx74, [], .ofNat 0, [])
def zNx74 : List zNd := [zn74_0]
def zEx74 : List zSm := []
theorem ze74 : ∀ q ∈ zEx74, SmOk LL q := fun _ h => absurd h List.not_mem_nil
def zYx74 : List (Nat × Nat) := []
def zQx74 : List zSp := []
theorem zK74 : zcks LL TTl zMx74 zEx74 zYx74 zNx74 zXx74 zQx74 0 100000 zNx74 = true := by decide +kernel
theorem zO74 : SmOk LL zSx74 := sm_ok (D := 0) (fu := 100000) (SP := zQx74) (NP := zYx74) (ND := zNx74) LL_1 TTl_ok ze74 (zcks_ok zK74) (c := .ofNat 0) rfl List.mem_cons_self
/-- left3 -/
def zMx75 : List Nat := []
def zTx75 : zS := ([(0, (2, 89, .ofNat 0))], [], [(90, zWr (.inr (0, 1, .ofNat 3)))], zWB, zWF, 26)
def zXx75 : zS := ([], [(0, 2, .ofNat 0)], [], [(2, .ofNat 0, .ofNat 7)], [], 3)
def zSx75 : zSm := (142, 1, zTx75, zXx75, zMx75)
def zn75_0 : zNd := (142, 0, zTx75, [], .ofNat 0, [])
def zNx75 : List zNd := [zn75_0]
def zEx75 : List zSm := []
theorem ze75 : ∀ q ∈ zEx75, SmOk LL q := fun _ h => absurd h List.not_mem_nil
def zYx75 : List (Nat × Nat) := []
def zQx75 : List zSp := []
theorem zK75 : zcks LL TTl zMx75 zEx75 zYx75 zNx75 zXx75 zQx75 0 100000 zNx75 = true := by decide +kernel
theorem zO75 : SmOk LL zSx75 := sm_ok (D := 0) (fu := 100000) (SP := zQx75) (NP := zYx75) (ND := zNx75) LL_1 TTl_ok ze75 (zcks_ok zK75) (c := .ofNat 0) rfl List.mem_cons_self
/-- left4 -/
def zMx76 : List Nat := []
def zTx76 : zS := ([(0, (2, 89, .ofNat 0))], [], [(90, zWr (.inr (0, 1, .ofNat 4)))], zWB, zWF, 26)
def zXx76 : zS := ([], [(0, 2, .ofNat 0)], [], [(2, .ofNat 0, .ofNat 15)], [], 3)
def zSx76 : zSm := (142, 1, zTx76, zXx76, zMx76)
def zn76_0 : zNd := (142, 0, zTx76, [], .ofNat 0, [])
def zNx76 : List zNd := [zn76_0]
def zEx76 : List zSm := []
theorem ze76 : ∀ q ∈ zEx76, SmOk LL q := fun _ h => absurd h List.not_mem_nil
def zYx76 : List (Nat × Nat) := []
def zQx76 : List zSp := []
theorem zK76 : zcks LL TTl zMx76 zEx76 zYx76 zNx76 zXx76 zQx76 0 100000 zNx76 = true := by decide +kernel
theorem zO76 : SmOk LL zSx76 := sm_ok (D := 0) (fu := 100000) (SP := zQx76) (NP := zYx76) (ND := zNx76) LL_1 TTl_ok ze76 (zcks_ok zK76) (c := .ofNat 0) rfl List.mem_cons_self
/-- left5 -/
def zMx77 : List Nat := []
def zTx77 : zS := ([(0, (2, 89, .ofNat 0))], [], [(90, zWr (.inr (0, 1, .ofNat 5)))], zWB, zWF, 26)
def zXx77 : zS := ([], [(0, 2, .ofNat 0)], [], [(2, .ofNat 0, .ofNat 31)], [], 3)
def zSx77 : zSm := (142, 1, zTx77, zXx77, zMx77)
def zn77_0 : zNd := (142, 0, zTx77, [], .ofNat 0, [])
def zNx77 : List zNd := [zn77_0]
def zEx77 : List zSm := []
theorem ze77 : ∀ q ∈ zEx77, SmOk LL q := fun _ h => absurd h List.not_mem_nil
def zYx77 : List (Nat × Nat) := []
def zQx77 : List zSp := []
theorem zK77 : zcks LL TTl zMx77 zEx77 zYx77 zNx77 zXx77 zQx77 0 100000 zNx77 = true := by decide +kernel
theorem zO77 : SmOk LL zSx77 := sm_ok (D := 0) (fu := 100000) (SP := zQx77) (NP := zYx77) (ND := zNx77) LL_1 TTl_ok ze77 (zcks_ok zK77) (c := .ofNat 0) rfl List.mem_cons_self
