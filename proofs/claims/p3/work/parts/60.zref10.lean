/-! the checker on the methods, printed -/
/-- minds -/
def zMx108 : List Nat := [89, 90]
def zTx108 : zS := ([(0, (2, 89, .ofNat 0))], [], [(90, zWr (.inr (0, 26, .ofNat 0)))], (26, .ofNat 0, .ofNat 6) :: zWB, zWF, 27)
def zXx108 : zS := ([], [], [(90, zWr (.inr (0, 26, .ofNat 0)))], (26, .ofNat 0, .ofNat 6) :: zWB, zWF, 27)
def zSx108 : zSm := (101, 2, zTx108, zXx108, zMx108)
def zn108_0 : zNd := (101, 0, zTx108, [], .ofNat 18, [])
def zn108_1 : zNd := (101, 11, ([(1, (0, 1, .ofNat 0)), (0, (2, 89, .ofNat 0))], [], [(90, zWr (.inr (0, 26, .ofNat 0))), (89, .inr (.inr (.inr (.inr (5, [zp 90, .inr (0, 1, .ofNat 6), zp 91, zp 92, .inr (0, 0, .ofNat 0), zp 93, .inl (.ofNat 0, .ofNat 160), zi, zi, zi, zi, zi, zp 94, zp 95, zp 96, zp 97, zp 98, .inl (.ofNat 0, .ofNat 4), zp 99, .inl (.negSucc 0, .ofNat 3)])))))], (26, .ofNat 0, .ofNat 6) :: zWB, zWF, 27), [], .ofNat 7, [])
def zn108_2 : zNd := (100, 2, ([(1, (0, 1, .ofNat 0)), (2, (0, 1, .ofNat 330)), (3, (0, 1, .ofNat 0)), (0, (2, 89, .ofNat 0))], [], [(90, zWr (.inr (0, 26, .ofNat 0))), (89, .inr (.inr (.inr (.inr (5, [zp 90, .inr (0, 1, .ofNat 5), zp 91, zp 92, .inr (0, 0, .ofNat 0), zp 93, .inl (.ofNat 0, .ofNat 160), zi, zi, zi, zi, zi, zp 94, zp 95, zp 96, zp 97, zp 98, .inl (.ofNat 0, .ofNat 4), zp 99, .inl (.negSucc 0, .ofNat 3)])))))], (26, .ofNat 0, .ofNat 6) :: zWB, zWF, 27), [(101, 67, [(0, (2, 89, .ofNat 0))], [])], .ofNat 2, [])
def zn108_3 : zNd := (100, 2, ([(1, (0, 1, .ofNat 0)), (2, (0, 1, .ofNat 275)), (3, (0, 1, .ofNat 0)), (0, (2, 89, .ofNat 0))], [], [(90, zWr (.inr (0, 26, .ofNat 0))), (89, .inr (.inr (.inr (.inr (5, [zp 90, .inr (0, 1, .ofNat 4), zp 91, zp 92, .inr (0, 0, .ofNat 0), zp 93, .inl (.ofNat 0, .ofNat 160), zi, zi, zi, zi, zi, zp 94, zp 95, zp 96, zp 97, zp 98, .inl (.ofNat 0, .ofNat 4), zp 99, .inl (.negSucc 0, .ofNat 3)])))))], (26, .ofNat 0, .ofNat 6) :: zWB, zWF, 27), [(101, 67, [(0, (2, 89, .ofNat 0))], [])], .ofNat 9, [])
def zn108_4 : zNd := (100, 2, ([(1, (0, 1, .ofNat 0)), (2, (0, 1, .ofNat 220)), (3, (0, 1, .ofNat 0)), (0, (2, 89, .ofNat 0))], [], [(90, zWr (.inr (0, 26, .ofNat 0))), (89, .inr (.inr (.inr (.inr (5, [zp 90, .inr (0, 1, .ofNat 3), zp 91, zp 92, .inr (0, 0, .ofNat 0), zp 93, .inl (.ofNat 0, .ofNat 160), zi, zi, zi, zi, zi, zp 94, zp 95, zp 96, zp 97, zp 98, .inl (.ofNat 0, .ofNat 4), zp 99, .inl (.negSucc 0, .ofNat 3)])))))], (26, .ofNat 0, .ofNat 6) :: zWB, zWF, 27), [(101, 67, [(0, (2, 89, .ofNat 0))], [])], .ofNat 11, [])
def zn108_5 : zNd := (100, 2, ([(1, (0, 1, .ofNat 0)), (2, (0, 1, .ofNat 165)), (3, (0, 1, .ofNat 0)), (0, (2, 89, .ofNat 0))], [], [(90, zWr (.inr (0, 26, .ofNat 0))), (89, .inr (.inr (.inr (.inr (5, [zp 90, .inr (0, 1, .ofNat 2), zp 91, zp 92, .inr (0, 0, .ofNat 0), zp 93, .inl (.ofNat 0, .ofNat 160), zi, zi, zi, zi, zi, zp 94, zp 95, zp 96, zp 97, zp 98, .inl (.ofNat 0, .ofNat 4), zp 99, .inl (.negSucc 0, .ofNat 3)])))))], (26, .ofNat 0, .ofNat 6) :: zWB, zWF, 27), [(101, 67, [(0, (2, 89, .ofNat 0))], [])], .ofNat 13, [])
def zn108_6 : zNd := (100, 2, ([(1, (0, 1, .ofNat 0)), (2, (0, 1, .ofNat 110)), (3, (0, 1, .ofNat 0)), (0, (2, 89, .ofNat 0))], [], [(90, zWr (.inr (0, 26, .ofNat 0))), (89, .inr (.inr (.inr (.inr (5, [zp 90, .inr (0, 1, .ofNat 1), zp 91, zp 92, .inr (0, 0, .ofNat 0), zp 93, .inl (.ofNat 0, .ofNat 160), zi, zi, zi, zi, zi, zp 94, zp 95, zp 96, zp 97, zp 98, .inl (.ofNat 0, .ofNat 4), zp 99, .inl (.negSucc 0, .ofNat 3)])))))], (26, .ofNat 0, .ofNat 6) :: zWB, zWF, 27), [(101, 67, [(0, (2, 89, .ofNat 0))], [])], .ofNat 15, [])
def zn108_7 : zNd := (100, 2, ([(1, (0, 1, .ofNat 0)), (2, (0, 1, .ofNat 55)), (3, (0, 1, .ofNat 0)), (0, (2, 89, .ofNat 0))], [], [(90, zWr (.inr (0, 26, .ofNat 0))), (89, .inr (.inr (.inr (.inr (5, [zp 90, .inr (0, 1, .ofNat 0), zp 91, zp 92, .inr (0, 0, .ofNat 0), zp 93, .inl (.ofNat 0, .ofNat 160), zi, zi, zi, zi, zi, zp 94, zp 95, zp 96, zp 97, zp 98, .inl (.ofNat 0, .ofNat 4), zp 99, .inl (.negSucc 0, .ofNat 3)])))))], (26, .ofNat 0, .ofNat 6) :: zWB, zWF, 27), [(101, 67, [(0, (2, 89, .ofNat 0))], [])], .ofNat 17, [])
def zn108_8 : zNd := (100, 30, ([(1, (0, 1, .ofNat 0)), (2, (0, 1, .ofNat 55)), (3, (0, 1, .ofNat 55)), (0, (2, 89, .ofNat 0))], [], [(90, zWr (.inr (0, 26, .ofNat 0))), (89, .inr (.inr (.inr (.inr (5, [zp 90, .inr (0, 1, .ofNat 0), zp 91, zp 92, .inr (0, 0, .ofNat 0), zp 93, .inl (.ofNat 0, .ofNat 160), zi, zi, zi, zi, zi, zp 94, zp 95, zp 96, zp 97, zp 98, .inl (.ofNat 0, .ofNat 4), zp 99, .inl (.negSucc 0, .ofNat 3)])))))], (26, .ofNat 0, .ofNat 6) :: zWB, zWF, 27), [(101, 67, [(0, (2, 89, .ofNat 0))], [])], .ofNat 16, [])
def zn108_9 : zNd := (101, 77, ([(0, (2, 89, .ofNat 0))], [], [(90, zWr (.inr (0, 27, .ofNat 0))), (89, .inr (.inr (.inr (.inr (5, [zp 90, .inr (0, 26, .ofNat 0), zp 91, zp 92, .inr (0, 0, .ofNat 0), zp 93, .inl (.ofNat 0, .ofNat 160), zi, zi, zi, zi, zi, zp 94, zp 95, zp 96, zp 97, zp 98, .inl (.ofNat 0, .ofNat 4), zp 99, .inl (.negSucc 0, .ofNat 3)])))))], (26, .ofNat 1, .ofNat 6) :: (27, .ofNat 0, .ofNat 6) :: zWB, zWF, 28), [], .ofNat 0, [])
def zn108_10 : zNd := (100, 30, ([(1, (0, 1, .ofNat 0)), (2, (0, 1, .ofNat 110)), (3, (0, 1, .ofNat 55)), (0, (2, 89, .ofNat 0))], [], [(90, zWr (.inr (0, 26, .ofNat 0))), (89, .inr (.inr (.inr (.inr (5, [zp 90, .inr (0, 1, .ofNat 1), zp 91, zp 92, .inr (0, 0, .ofNat 0), zp 93, .inl (.ofNat 0, .ofNat 160), zi, zi, zi, zi, zi, zp 94, zp 95, zp 96, zp 97, zp 98, .inl (.ofNat 0, .ofNat 4), zp 99, .inl (.negSucc 0, .ofNat 3)])))))], (26, .ofNat 0, .ofNat 6) :: zWB, zWF, 27), [(101, 67, [(0, (2, 89, .ofNat 0))], [])], .ofNat 14, [])
def zn108_11 : zNd := (100, 30, ([(1, (0, 1, .ofNat 0)), (2, (0, 1, .ofNat 165)), (3, (0, 1, .ofNat 55)), (0, (2, 89, .ofNat 0))], [], [(90, zWr (.inr (0, 26, .ofNat 0))), (89, .inr (.inr (.inr (.inr (5, [zp 90, .inr (0, 1, .ofNat 2), zp 91, zp 92, .inr (0, 0, .ofNat 0), zp 93, .inl (.ofNat 0, .ofNat 160), zi, zi, zi, zi, zi, zp 94, zp 95, zp 96, zp 97, zp 98, .inl (.ofNat 0, .ofNat 4), zp 99, .inl (.negSucc 0, .ofNat 3)])))))], (26, .ofNat 0, .ofNat 6) :: zWB, zWF, 27), [(101, 67, [(0, (2, 89, .ofNat 0))], [])], .ofNat 12, [])
def zn108_12 : zNd := (100, 30, ([(1, (0, 1, .ofNat 0)), (2, (0, 1, .ofNat 220)), (3, (0, 1, .ofNat 55)), (0, (2, 89, .ofNat 0))], [], [(90, zWr (.inr (0, 26, .ofNat 0))), (89, .inr (.inr (.inr (.inr (5, [zp 90, .inr (0, 1, .ofNat 3), zp 91, zp 92, .inr (0, 0, .ofNat 0), zp 93, .inl (.ofNat 0, .ofNat 160), zi, zi, zi, zi, zi, zp 94, zp 95, zp 96, zp 97, zp 98, .inl (.ofNat 0, .ofNat 4), zp 99, .inl (.negSucc 0, .ofNat 3)])))))], (26, .ofNat 0, .ofNat 6) :: zWB, zWF, 27), [(101, 67, [(0, (2, 89, .ofNat 0))], [])], .ofNat 10, [])
def zn108_13 : zNd := (100, 30, ([(1, (0, 1, .ofNat 0)), (2, (0, 1, .ofNat 275)), (3, (0, 1, .ofNat 55)), (0, (2, 89, .ofNat 0))], [], [(90, zWr (.inr (0, 26, .ofNat 0))), (89, .inr (.inr (.inr (.inr (5, [zp 90, .inr (0, 1, .ofNat 4), zp 91, zp 92, .inr (0, 0, .ofNat 0), zp 93, .inl (.ofNat 0, .ofNat 160), zi, zi, zi, zi, zi, zp 94, zp 95, zp 96, zp 97, zp 98, .inl (.ofNat 0, .ofNat 4), zp 99, .inl (.negSucc 0, .ofNat 3)])))))], (26, .ofNat 0, .ofNat 6) :: zWB, zWF, 27), [(101, 67, [(0, (2, 89, .ofNat 0))], [])], .ofNat 8, [])
def zn108_14 : zNd := (100, 30, ([(1, (0, 1, .ofNat 0)), (2, (0, 1, .ofNat 330)), (3, (0, 1, .ofNat 55)), (0, (2, 89, .ofNat 0))], [], [(90, zWr (.inr (0, 26, .ofNat 0))), (89, .inr (.inr (.inr (.inr (5, [zp 90, .inr (0, 1, .ofNat 5), zp 91, zp 92, .inr (0, 0, .ofNat 0), zp 93, .inl (.ofNat 0, .ofNat 160), zi, zi, zi, zi, zi, zp 94, zp 95, zp 96, zp 97, zp 98, .inl (.ofNat 0, .ofNat 4), zp 99, .inl (.negSucc 0, .ofNat 3)])))))], (26, .ofNat 0, .ofNat 6) :: zWB, zWF, 27), [(101, 67, [(0, (2, 89, .ofNat 0))], [])], .ofNat 1, [])
def zn108_15 : zNd := (101, 11, ([(1, (0, 1, .ofNat 55)), (0, (2, 89, .ofNat 0))], [], [(90, zWr (.inr (0, 26, .ofNat 0))), (89, .inr (.inr (.inr (.inr (5, [zp 90, .inr (0, 1, .ofNat 6), zp 91, zp 92, .inr (0, 0, .ofNat 0), zp 93, .inl (.ofNat 0, .ofNat 160), zi, zi, zi, zi, zi, zp 94, zp 95, zp 96, zp 97, zp 98, .inl (.ofNat 0, .ofNat 4), zp 99, .inl (.negSucc 0, .ofNat 3)])))))], (26, .ofNat 0, .ofNat 6) :: zWB, zWF, 27), [], .ofNat 6, [])
def zn108_16 : zNd := (101, 11, ([(1, (0, 1, .ofNat 110)), (0, (2, 89, .ofNat 0))], [], [(90, zWr (.inr (0, 26, .ofNat 0))), (89, .inr (.inr (.inr (.inr (5, [zp 90, .inr (0, 1, .ofNat 6), zp 91, zp 92, .inr (0, 0, .ofNat 0), zp 93, .inl (.ofNat 0, .ofNat 160), zi, zi, zi, zi, zi, zp 94, zp 95, zp 96, zp 97, zp 98, .inl (.ofNat 0, .ofNat 4), zp 99, .inl (.negSucc 0, .ofNat 3)])))))], (26, .ofNat 0, .ofNat 6) :: zWB, zWF, 27), [], .ofNat 5, [])
def zn108_17 : zNd := (101, 11, ([(1, (0, 1, .ofNat 165)), (0, (2, 89, .ofNat 0))], [], [(90, zWr (.inr (0, 26, .ofNat 0))), (89, .inr (.inr (.inr (.inr (5, [zp 90, .inr (0, 1, .ofNat 6), zp 91, zp 92, .inr (0, 0, .ofNat 0), zp 93, .inl (.ofNat 0, .ofNat 160), zi, zi, zi, zi, zi, zp 94, zp 95, zp 96, zp 97, zp 98, .inl (.ofNat 0, .ofNat 4), zp 99, .inl (.negSucc 0, .ofNat 3)])))))], (26, .ofNat 0, .ofNat 6) :: zWB, zWF, 27), [], .ofNat 4, [])
def zn108_18 : zNd := (101, 11, ([(1, (0, 1, .ofNat 220)), (0, (2, 89, .ofNat 0))], [], [(90, zWr (.inr (0, 26, .ofNat 0))), (89, .inr (.inr (.inr (.inr (5, [zp 90, .inr (0, 1, .ofNat 6), zp 91, zp 92, .inr (0, 0, .ofNat 0), zp 93, .inl (.ofNat 0, .ofNat 160), zi, zi, zi, zi, zi, zp 94, zp 95, zp 96, zp 97, zp 98, .inl (.ofNat 0, .ofNat 4), zp 99, .inl (.negSucc 0, .ofNat 3)])))))], (26, .ofNat 0, .ofNat 6) :: zWB, zWF, 27), [], .ofNat 3, [])
def zNx108 : List zNd := [zn108_0, zn108_1, zn108_2, zn108_3, zn108_4, zn108_5, zn108_6, zn108_7, zn108_8, zn108_9, zn108_10, zn108_11, zn108_12, zn108_13, zn108_14, zn108_15, zn108_16, zn108_17, zn108_18]
def zEx108 : List zSm := []
theorem ze108 : ∀ q ∈ zEx108, SmOk LL q := fun _ h => absurd h List.not_mem_nil
def zYx108 : List (Nat × Nat) := [(100, 2), (100, 30), (101, 11), (101, 77)]
def zQx108 : List zSp := [(101, 4, 1, 0, 0, none)]
theorem zK108_0 : zcks LL TTl zMx108 zEx108 zYx108 zNx108 zXx108 zQx108 1 100000 [zn108_0, zn108_1] = true := by decide +kernel
theorem zK108_1 : zcks LL TTl zMx108 zEx108 zYx108 zNx108 zXx108 zQx108 1 100000 [zn108_2] = true := by decide +kernel
theorem zK108_2 : zcks LL TTl zMx108 zEx108 zYx108 zNx108 zXx108 zQx108 1 100000 [zn108_3] = true := by decide +kernel
theorem zK108_3 : zcks LL TTl zMx108 zEx108 zYx108 zNx108 zXx108 zQx108 1 100000 [zn108_4] = true := by decide +kernel
theorem zK108_4 : zcks LL TTl zMx108 zEx108 zYx108 zNx108 zXx108 zQx108 1 100000 [zn108_5] = true := by decide +kernel
theorem zK108_5 : zcks LL TTl zMx108 zEx108 zYx108 zNx108 zXx108 zQx108 1 100000 [zn108_6] = true := by decide +kernel
theorem zK108_6 : zcks LL TTl zMx108 zEx108 zYx108 zNx108 zXx108 zQx108 1 100000 [zn108_7, zn108_8, zn108_9, zn108_10, zn108_11, zn108_12, zn108_13, zn108_14] = true := by decide +kernel
theorem zK108_7 : zcks LL TTl zMx108 zEx108 zYx108 zNx108 zXx108 zQx108 1 100000 [zn108_15] = true := by decide +kernel
theorem zK108_8 : zcks LL TTl zMx108 zEx108 zYx108 zNx108 zXx108 zQx108 1 100000 [zn108_16] = true := by decide +kernel
theorem zK108_9 : zcks LL TTl zMx108 zEx108 zYx108 zNx108 zXx108 zQx108 1 100000 [zn108_17] = true := by decide +kernel
theorem zK108_10 : zcks LL TTl zMx108 zEx108 zYx108 zNx108 zXx108 zQx108 1 100000 [zn108_18] = true := by decide +kernel
theorem zk108 : ∀ nd ∈ zNx108, zck LL TTl zMx108 zEx108 zYx108 zNx108 zXx108 zQx108 1 100000 nd = true := zck2 (zcks_ok zK108_0) (zck2 (zcks_ok zK108_1) (zck2 (zcks_ok zK108_2) (zck2 (zcks_ok zK108_3) (zck2 (zcks_ok zK108_4) (zck2 (zcks_ok zK108_5) (zck2 (zcks_ok zK108_6) (zck2 (zcks_ok zK108_7) (zck2 (zcks_ok zK108_8) (zck2 (zcks_ok zK108_9) (zcks_ok zK108_10))))))))))
theorem zO108 : SmOk LL zSx108 := sm_ok (D := 1) (fu := 100000) (SP := zQx108) (NP := zYx108) (ND := zNx108) LL_1 TTl_ok ze108 zk108 (c := .ofNat 18) rfl List.mem_cons_self
/-- rates -/
def zMx109 : List Nat := [89, 90, 91]
def zTx109 : zS := ([(0, (2, 89, .ofNat 0)), (1, (0, 26, .ofNat 0)), (2, (0, 27, .ofNat 0)), (3, (0, 28, .ofNat 0))], [], [(90, zWr (.inr (0, 29, .ofNat 0)))], (26, .negSucc 2147483647, .ofNat 2147483647) :: (27, .negSucc 2147483647, .ofNat 2147483647) :: (28, .negSucc 2147483647, .ofNat 2147483647) :: (29, .ofNat 0, .ofNat 6) :: zWB, zWF, 30)
def zXx109 : zS := ([], [(0, 26, .ofNat 0)], [(90, zWr (.inr (0, 27, .ofNat 0)))], (26, .negSucc 2147483647, .ofNat 2147483647) :: (27, .ofNat 0, .ofNat 6) :: zWB, zWF, 28)
def zSx109 : zSm := (136, 3, zTx109, zXx109, zMx109)
def zn109_0 : zNd := (136, 0, zTx109, [], .ofNat 0, [])
def zNx109 : List zNd := [zn109_0]
def zEx109 : List zSm := [zSx106]
theorem ze109 : ∀ q ∈ zEx109, SmOk LL q := List.forall_mem_cons.mpr ⟨zO106, fun _ h => absurd h List.not_mem_nil⟩
def zYx109 : List (Nat × Nat) := []
def zQx109 : List zSp := []
theorem zK109 : zcks LL TTl zMx109 zEx109 zYx109 zNx109 zXx109 zQx109 2 100000 zNx109 = true := by decide +kernel
theorem zO109 : SmOk LL zSx109 := sm_ok (D := 2) (fu := 100000) (SP := zQx109) (NP := zYx109) (ND := zNx109) LL_1 TTl_ok ze109 (zcks_ok zK109) (c := .ofNat 0) rfl List.mem_cons_self
/-- strength -/
def zMx110 : List Nat := [89, 90, 91]
def zTx110 : zS := ([(0, (2, 89, .ofNat 0)), (1, (0, 26, .ofNat 0)), (2, (0, 27, .ofNat 0))], [], [(90, zWr (.inr (0, 28, .ofNat 0)))], (26, .negSucc 2147483647, .ofNat 2147483647) :: (27, .negSucc 2147483647, .ofNat 2147483647) :: (28, .ofNat 0, .ofNat 6) :: zWB, zWF, 29)
def zXx110 : zS := ([], [(0, 26, .ofNat 0)], [(90, zWr (.inr (0, 27, .ofNat 0)))], (26, .negSucc 2147483647, .ofNat 2147483647) :: (27, .ofNat 0, .ofNat 6) :: zWB, zWF, 28)
def zSx110 : zSm := (137, 3, zTx110, zXx110, zMx110)
def zn110_0 : zNd := (137, 0, zTx110, [], .ofNat 0, [])
def zNx110 : List zNd := [zn110_0]
def zEx110 : List zSm := [zSx107]
theorem ze110 : ∀ q ∈ zEx110, SmOk LL q := List.forall_mem_cons.mpr ⟨zO107, fun _ h => absurd h List.not_mem_nil⟩
def zYx110 : List (Nat × Nat) := []
def zQx110 : List zSp := []
theorem zK110 : zcks LL TTl zMx110 zEx110 zYx110 zNx110 zXx110 zQx110 2 100000 zNx110 = true := by decide +kernel
theorem zO110 : SmOk LL zSx110 := sm_ok (D := 2) (fu := 100000) (SP := zQx110) (NP := zYx110) (ND := zNx110) LL_1 TTl_ok ze110 (zcks_ok zK110) (c := .ofNat 0) rfl List.mem_cons_self
/-- rule -/
def zMx111 : List Nat := [89, 90, 91]
def zTx111 : zS := ([(0, (2, 89, .ofNat 0)), (1, (0, 26, .ofNat 0))], [], [(90, zWr (.inr (0, 27, .ofNat 0)))], (26, .negSucc 2147483647, .ofNat 2147483647) :: (27, .ofNat 0, .ofNat 6) :: zWB, zWF, 28)
def zXx111 : zS := ([], [(0, 26, .ofNat 0)], [(90, zWr (.inr (0, 27, .ofNat 0)))], (26, .negSucc 2147483647, .ofNat 2147483647) :: (27, .ofNat 0, .ofNat 6) :: zWB, zWF, 28)
def zSx111 : zSm := (138, 3, zTx111, zXx111, zMx111)
def zn111_0 : zNd := (138, 0, zTx111, [], .ofNat 0, [])
def zNx111 : List zNd := [zn111_0]
def zEx111 : List zSm := [zSx108]
theorem ze111 : ∀ q ∈ zEx111, SmOk LL q := List.forall_mem_cons.mpr ⟨zO108, fun _ h => absurd h List.not_mem_nil⟩
def zYx111 : List (Nat × Nat) := []
def zQx111 : List zSp := []
theorem zK111 : zcks LL TTl zMx111 zEx111 zYx111 zNx111 zXx111 zQx111 2 100000 zNx111 = true := by decide +kernel
theorem zO111 : SmOk LL zSx111 := sm_ok (D := 2) (fu := 100000) (SP := zQx111) (NP := zYx111) (ND := zNx111) LL_1 TTl_ok ze111 (zcks_ok zK111) (c := .ofNat 0) rfl List.mem_cons_self
/-- binds -/
def zMx112 : List Nat := [89, 90, 91]
def zTx112 : zS := ([(0, (2, 89, .ofNat 0)), (1, (0, 26, .ofNat 0)), (2, (0, 27, .ofNat 0))], [], [(90, zWr (.inr (0, 28, .ofNat 0)))], (26, .negSucc 2147483647, .ofNat 2147483647) :: (27, .negSucc 2147483647, .ofNat 2147483647) :: (28, .ofNat 0, .ofNat 6) :: zWB, zWF, 29)
def zXx112 : zS := ([], [(0, 26, .ofNat 0)], [(90, zWr (.inr (0, 27, .ofNat 0)))], (26, .negSucc 2, .ofNat 5) :: (27, .ofNat 0, .ofNat 6) :: zWB, zWF, 28)
def zSx112 : zSm := (140, 3, zTx112, zXx112, zMx112)
def zn112_0 : zNd := (140, 0, zTx112, [], .ofNat 82, [])
def zn112_1 : zNd := (140, 72, ([(0, (2, 89, .ofNat 0)), (1, (0, 26, .ofNat 0)), (2, (0, 27, .ofNat 0)), (3, (0, 28, .ofNat 0))], [], [(90, zWr (.inr (0, 29, .ofNat 0)))], (26, .ofNat 0, .ofNat 5) :: (27, .ofNat 0, .ofNat 5) :: (28, .ofNat 0, .ofNat 4) :: (29, .ofNat 0, .ofNat 5) :: zWB, zWF, 30), [], .ofNat 80, [(.negSucc 13, 28)])
def zn112_2 : zNd := (140, 117, ([(0, (2, 89, .ofNat 0)), (1, (0, 26, .ofNat 0)), (2, (0, 27, .ofNat 0)), (3, (0, 28, .ofNat 0)), (4, (0, 29, .ofNat 0))], [], [(90, zWr (.inr (0, 30, .ofNat 0)))], (4, .ofNat 1, .ofNat 4) :: (26, .ofNat 0, .ofNat 5) :: (27, .ofNat 0, .ofNat 5) :: (28, .ofNat 0, .ofNat 3) :: (29, .ofNat 0, .ofNat 5) :: (30, .ofNat 0, .ofNat 5) :: zWB, zWF, 31), [], .ofNat 78, [(.negSucc 13, 28), (.negSucc 1, 29)])
def zn112_3 : zNd := (140, 166, ([(0, (2, 89, .ofNat 0)), (1, (0, 26, .ofNat 0)), (2, (0, 27, .ofNat 0)), (3, (0, 28, .ofNat 0))], [], [(90, zWr (.inr (0, 29, .ofNat 0)))], (26, .ofNat 0, .ofNat 5) :: (27, .ofNat 0, .ofNat 5) :: (28, .ofNat 0, .ofNat 5) :: (29, .ofNat 0, .ofNat 5) :: zWB, zWF, 30), [], .ofNat 10, [(.negSucc 1, 28)])
def zNx112 : List zNd := [zn112_0, zn112_1, zn112_2, zn112_3]
def zEx112 : List zSm := [zSx106]
theorem ze112 : ∀ q ∈ zEx112, SmOk LL q := List.forall_mem_cons.mpr ⟨zO106, fun _ h => absurd h List.not_mem_nil⟩
def zYx112 : List (Nat × Nat) := [(140, 72), (140, 117), (140, 166)]
def zQx112 : List zSp := []
theorem zK112 : zcks LL TTl zMx112 zEx112 zYx112 zNx112 zXx112 zQx112 2 100000 zNx112 = true := by decide +kernel
theorem zO112 : SmOk LL zSx112 := sm_ok (D := 2) (fu := 100000) (SP := zQx112) (NP := zYx112) (ND := zNx112) LL_1 TTl_ok ze112 (zcks_ok zK112) (c := .ofNat 82) rfl List.mem_cons_self
