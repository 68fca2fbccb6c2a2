/-! the checker on the methods, printed -/
/-- minds -/
def zMx115 : List Nat := [89, 90]
def zTx115 : zS := ([(0, (2, 89, .ofNat 0))], [], [(90, zWr (.inr (0, 26, .ofNat 0)))], (26, .ofNat 0, .ofNat 6) :: zWB, zWF, 27)
def zXx115 : zS := ([], [], [(90, zWr (.inr (0, 26, .ofNat 0)))], (26, .ofNat 0, .ofNat 6) :: zWB, zWF, 27)
def zSx115 : zSm := (101, 2, zTx115, zXx115, zMx115)
def zn115_0 : zNd := (101, 0, zTx115, [], .ofNat 18, [])
def zn115_1 : zNd := (101, 11, ([(1, (0, 1, .ofNat 0)), (0, (2, 89, .ofNat 0))], [], [(90, zWr (.inr (0, 26, .ofNat 0))), (89, .inr (.inr (.inr (.inr (5, [zp 90, .inr (0, 1, .ofNat 6), zp 91, zp 92, .inr (0, 0, .ofNat 0), zp 93, .inl (.ofNat 0, .ofNat 160), zi, zi, zi, zi, zi, zp 94, zp 95, zp 96, zp 97, zp 98, .inl (.ofNat 0, .ofNat 4), zp 99, .inl (.negSucc 0, .ofNat 3)])))))], (26, .ofNat 0, .ofNat 6) :: zWB, zWF, 27), [], .ofNat 7, [])
def zn115_2 : zNd := (100, 2, ([(1, (0, 1, .ofNat 0)), (2, (0, 1, .ofNat 330)), (3, (0, 1, .ofNat 0)), (0, (2, 89, .ofNat 0))], [], [(90, zWr (.inr (0, 26, .ofNat 0))), (89, .inr (.inr (.inr (.inr (5, [zp 90, .inr (0, 1, .ofNat 5), zp 91, zp 92, .inr (0, 0, .ofNat 0), zp 93, .inl (.ofNat 0, .ofNat 160), zi, zi, zi, zi, zi, zp 94, zp 95, zp 96, zp 97, zp 98, .inl (.ofNat 0, .ofNat 4), zp 99, .inl (.negSucc 0, .ofNat 3)])))))], (26, .ofNat 0, .ofNat 6) :: zWB, zWF, 27), [(101, 67, [(0, (2, 89, .ofNat 0))], [])], .ofNat 2, [])
def zn115_3 : zNd := (100, 2, ([(1, (0, 1, .ofNat 0)), (2, (0, 1, .ofNat 275)), (3, (0, 1, .ofNat 0)), (0, (2, 89, .ofNat 0))], [], [(90, zWr (.inr (0, 26, .ofNat 0))), (89, .inr (.inr (.inr (.inr (5, [zp 90, .inr (0, 1, .ofNat 4), zp 91, zp 92, .inr (0, 0, .ofNat 0), zp 93, .inl (.ofNat 0, .ofNat 160), zi, zi, zi, zi, zi, zp 94, zp 95, zp 96, zp 97, zp 98, .inl (.ofNat 0, .ofNat 4), zp 99, .inl (.negSucc 0, .ofNat 3)])))))], (26, .ofNat 0, .ofNat 6) :: zWB, zWF, 27), [(101, 67, [(0, (2, 89, .ofNat 0))], [])], .ofNat 9, [])
def zn115_4 : zNd := (100, 2, ([(1, (0, 1, .ofNat 0)), (2, (0, 1, .ofNat 220)), (3, (0, 1, .ofNat 0)), (0, (2, 89, .ofNat 0))], [], [(90, zWr (.inr (0, 26, .ofNat 0))), (89, .inr (.inr (.inr (.inr (5, [zp 90, .inr (0, 1, .ofNat 3), zp 91, zp 92, .inr (0, 0, .ofNat 0), zp 93, .inl (.ofNat 0, .ofNat 160), zi, zi, zi, zi, zi, zp 94, zp 95, zp 96, zp 97, zp 98, .inl (.ofNat 0, .ofNat 4), zp 99, .inl (.negSucc 0, .ofNat 3)])))))], (26, .ofNat 0, .ofNat 6) :: zWB, zWF, 27), [(101, 67, [(0, (2, 89, .ofNat 0))], [])], .ofNat 11, [])
def zn115_5 : zNd := (100, 2, ([(1, (0, 1, .ofNat 0)), (2, (0, 1, .ofNat 165)), (3, (0, 1, .ofNat 0)), (0, (2, 89, .ofNat 0))], [], [(90, zWr (.inr (0, 26, .ofNat 0))), (89, .inr (.inr (.inr (.inr (5, [zp 90, .inr (0, 1, .ofNat 2), zp 91, zp 92, .inr (0, 0, .ofNat 0), zp 93, .inl (.ofNat 0, .ofNat 160), zi, zi, zi, zi, zi, zp 94, zp 95, zp 96, zp 97, zp 98, .inl (.ofNat 0, .ofNat 4), zp 99, .inl (.negSucc 0, .ofNat 3)])))))], (26, .ofNat 0, .ofNat 6) :: zWB, zWF, 27), [(101, 67, [(0, (2, 89, .ofNat 0))], [])], .ofNat 13, [])
def zn115_6 : zNd := (100, 2, ([(1, (0, 1, .ofNat 0)), (2, (0, 1, .ofNat 110)), (3, (0, 1, .ofNat 0)), (0, (2, 89, .ofNat 0))], [], [(90, zWr (.inr (0, 26, .ofNat 0))), (89, .inr (.inr (.inr (.inr (5, [zp 90, .inr (0, 1, .ofNat 1), zp 91, zp 92, .inr (0, 0, .ofNat 0), zp 93, .inl (.ofNat 0, .ofNat 160), zi, zi, zi, zi, zi, zp 94, zp 95, zp 96, zp 97, zp 98, .inl (.ofNat 0, .ofNat 4), zp 99, .inl (.negSucc 0, .ofNat 3)])))))], (26, .ofNat 0, .ofNat 6) :: zWB, zWF, 27), [(101, 67, [(0, (2, 89, .ofNat 0))], [])], .ofNat 15, [])
def zn115_7 : zNd := (100, 2, ([(1, (0, 1, .ofNat 0)), (2, (0, 1, .ofNat 55)), (3, (0, 1, .ofNat 0)), (0, (2, 89, .ofNat 0))], [], [(90, zWr (.inr (0, 26, .ofNat 0))), (89, .inr (.inr (.inr (.inr (5, [zp 90, .inr (0, 1, .ofNat 0), zp 91, zp 92, .inr (0, 0, .ofNat 0), zp 93, .inl (.ofNat 0, .ofNat 160), zi, zi, zi, zi, zi, zp 94, zp 95, zp 96, zp 97, zp 98, .inl (.ofNat 0, .ofNat 4), zp 99, .inl (.negSucc 0, .ofNat 3)])))))], (26, .ofNat 0, .ofNat 6) :: zWB, zWF, 27), [(101, 67, [(0, (2, 89, .ofNat 0))], [])], .ofNat 17, [])
def zn115_8 : zNd := (100, 30, ([(1, (0, 1, .ofNat 0)), (2, (0, 1, .ofNat 55)), (3, (0, 1, .ofNat 55)), (0, (2, 89, .ofNat 0))], [], [(90, zWr (.inr (0, 26, .ofNat 0))), (89, .inr (.inr (.inr (.inr (5, [zp 90, .inr (0, 1, .ofNat 0), zp 91, zp 92, .inr (0, 0, .ofNat 0), zp 93, .inl (.ofNat 0, .ofNat 160), zi, zi, zi, zi, zi, zp 94, zp 95, zp 96, zp 97, zp 98, .inl (.ofNat 0, .ofNat 4), zp 99, .inl (.negSucc 0, .ofNat 3)])))))], (26, .ofNat 0, .ofNat 6) :: zWB, zWF, 27), [(101, 67, [(0, (2, 89, .ofNat 0))], [])], .ofNat 16, [])
def zn115_9 : zNd := (101, 77, ([(0, (2, 89, .ofNat 0))], [], [(90, zWr (.inr (0, 27, .ofNat 0))), (89, .inr (.inr (.inr (.inr (5, [zp 90, .inr (0, 26, .ofNat 0), zp 91, zp 92, .inr (0, 0, .ofNat 0), zp 93, .inl (.ofNat 0, .ofNat 160), zi, zi, zi, zi, zi, zp 94, zp 95, zp 96, zp 97, zp 98, .inl (.ofNat 0, .ofNat 4), zp 99, .inl (.negSucc 0, .ofNat 3)])))))], (26, .ofNat 1, .ofNat 6) :: (27, .ofNat 0, .ofNat 6) :: zWB, zWF, 28), [], .ofNat 0, [])
def zn115_10 : zNd := (100, 30, ([(1, (0, 1, .ofNat 0)), (2, (0, 1, .ofNat 110)), (3, (0, 1, .ofNat 55)), (0, (2, 89, .ofNat 0))], [], [(90, zWr (.inr (0, 26, .ofNat 0))), (89, .inr (.inr (.inr (.inr (5, [zp 90, .inr (0, 1, .ofNat 1), zp 91, zp 92, .inr (0, 0, .ofNat 0), zp 93, .inl (.ofNat 0, .ofNat 160), zi, zi, zi, zi, zi, zp 94, zp 95, zp 96, zp 97, zp 98, .inl (.ofNat 0, .ofNat 4), zp 99, .inl (.negSucc 0, .ofNat 3)])))))], (26, .ofNat 0, .ofNat 6) :: zWB, zWF, 27), [(101, 67, [(0, (2, 89, .ofNat 0))], [])], .ofNat 14, [])
def zn115_11 : zNd := (100, 30, ([(1, (0, 1, .ofNat 0)), (2, (0, 1, .ofNat 165)), (3, (0, 1, .ofNat 55)), (0, (2, 89, .ofNat 0))], [], [(90, zWr (.inr (0, 26, .ofNat 0))), (89, .inr (.inr (.inr (.inr (5, [zp 90, .inr (0, 1, .ofNat 2), zp 91, zp 92, .inr (0, 0, .ofNat 0), zp 93, .inl (.ofNat 0, .ofNat 160), zi, zi, zi, zi, zi, zp 94, zp 95, zp 96, zp 97, zp 98, .inl (.ofNat 0, .ofNat 4), zp 99, .inl (.negSucc 0, .ofNat 3)])))))], (26, .ofNat 0, .ofNat 6) :: zWB, zWF, 27), [(101, 67, [(0, (2, 89, .ofNat 0))], [])], .ofNat 12, [])
def zn115_12 : zNd := (100, 30, ([(1, (0, 1, .ofNat 0)), (2, (0, 1, .ofNat 220)), (3, (0, 1, .ofNat 55)), (0, (2, 89, .ofNat 0))], [], [(90, zWr (.inr (0, 26, .ofNat 0))), (89, .inr (.inr (.inr (.inr (5, [zp 90, .inr (0, 1, .ofNat 3), zp 91, zp 92, .inr (0, 0, .ofNat 0), zp 93, .inl (.ofNat 0, .ofNat 160), zi, zi, zi, zi, zi, zp 94, zp 95, zp 96, zp 97, zp 98, .inl (.ofNat 0, .ofNat 4), zp 99, .inl (.negSucc 0, .ofNat 3)])))))], (26, .ofNat 0, .ofNat 6) :: zWB, zWF, 27), [(101, 67, [(0, (2, 89, .ofNat 0))], [])], .ofNat 10, [])
def zn115_13 : zNd := (100, 30, ([(1, (0, 1, .ofNat 0)), (2, (0, 1, .ofNat 275)), (3, (0, 1, .ofNat 55)), (0, (2, 89, .ofNat 0))], [], [(90, zWr (.inr (0, 26, .ofNat 0))), (89, .inr (.inr (.inr (.inr (5, [zp 90, .inr (0, 1, .ofNat 4), zp 91, zp 92, .inr (0, 0, .ofNat 0), zp 93, .inl (.ofNat 0, .ofNat 160), zi, zi, zi, zi, zi, zp 94, zp 95, zp 96, zp 97, zp 98, .inl (.ofNat 0, .ofNat 4), zp 99, .inl (.negSucc 0, .ofNat 3)])))))], (26, .ofNat 0, .ofNat 6) :: zWB, zWF, 27), [(101, 67, [(0, (2, 89, .ofNat 0))], [])], .ofNat 8, [])
def zn115_14 : zNd := (100, 30, ([(1, (0, 1, .ofNat 0)), (2, (0, 1, .ofNat 330)), (3, (0, 1, .ofNat 55)), (0, (2, 89, .ofNat 0))], [], [(90, zWr (.inr (0, 26, .ofNat 0))), (89, .inr (.inr (.inr (.inr (5, [zp 90, .inr (0, 1, .ofNat 5), zp 91, zp 92, .inr (0, 0, .ofNat 0), zp 93, .inl (.ofNat 0, .ofNat 160), zi, zi, zi, zi, zi, zp 94, zp 95, zp 96, zp 97, zp 98, .inl (.ofNat 0, .ofNat 4), zp 99, .inl (.negSucc 0, .ofNat 3)])))))], (26, .ofNat 0, .ofNat 6) :: zWB, zWF, 27), [(101, 67, [(0, (2, 89, .ofNat 0))], [])], .ofNat 1, [])
def zn115_15 : zNd := (101, 11, ([(1, (0, 1, .ofNat 55)), (0, (2, 89, .ofNat 0))], [], [(90, zWr (.inr (0, 26, .ofNat 0))), (89, .inr (.inr (.inr (.inr (5, [zp 90, .inr (0, 1, .ofNat 6), zp 91, zp 92, .inr (0, 0, .ofNat 0), zp 93, .inl (.ofNat 0, .ofNat 160), zi, zi, zi, zi, zi, zp 94, zp 95, zp 96, zp 97, zp 98, .inl (.ofNat 0, .ofNat 4), zp 99, .inl (.negSucc 0, .ofNat 3)])))))], (26, .ofNat 0, .ofNat 6) :: zWB, zWF, 27), [], .ofNat 6, [])
def zn115_16 : zNd := (101, 11, ([(1, (0, 1, .ofNat 110)), (0, (2, 89, .ofNat 0))], [], [(90, zWr (.inr (0, 26, .ofNat 0))), (89, .inr (.inr (.inr (.inr (5, [zp 90, .inr (0, 1, .ofNat 6), zp 91, zp 92, .inr (0, 0, .ofNat 0), zp 93, .inl (.ofNat 0, .ofNat 160), zi, zi, zi, zi, zi, zp 94, zp 95, zp 96, zp 97, zp 98, .inl (.ofNat 0, .ofNat 4), zp 99, .inl (.negSucc 0, .ofNat 3)])))))], (26, .ofNat 0, .ofNat 6) :: zWB, zWF, 27), [], .ofNat 5, [])
def zn115_17 : zNd := (101, 11, ([(1, (0, 1, .ofNat 165)), (0, (2, 89, .ofNat 0))], [], [(90, zWr (.inr (0, 26, .ofNat 0))), (89, .inr (.inr (.inr (.inr (5, [zp 90, .inr (0, 1, .ofNat 6), zp 91, zp 92, .inr (0, 0, .ofNat 0), zp 93, .inl (.ofNat 0, .ofNat 160), zi, zi, zi, zi, zi, zp 94, zp 95, zp 96, zp 97, zp 98, .inl (.ofNat 0, .ofNat 4), zp 99, .inl (.negSucc 0, .ofNat 3)])))))], (26, .ofNat 0, .ofNat 6) :: zWB, zWF, 27), [], .ofNat 4, [])
def zn115_18 : zNd := (101, 11, ([(1, (0, 1, .ofNat 220)), (0, (2, 89, .ofNat 0))], [], [(90, zWr (.inr (0, 26, .ofNat 0))), (89, .inr (.inr (.inr (.inr (5, [zp 90, .inr (0, 1, .ofNat 6), zp 91, zp 92, .inr (0, 0, .ofNat 0), zp 93, .inl (.ofNat 0, .ofNat 160), zi, zi, zi, zi, zi, zp 94, zp 95, zp 96, zp 97, zp 98, .inl (.ofNat 0, .ofNat 4), zp 99, .inl (.negSucc 0, .ofNat 3)])))))], (26, .ofNat 0, .ofNat 6) :: zWB, zWF, 27), [], .ofNat 3, [])
def zNx115 : List zNd := [zn115_0, zn115_1, zn115_2, zn115_3, zn115_4, zn115_5, zn115_6, zn115_7, zn115_8, zn115_9, zn115_10, zn115_11, zn115_12, zn115_13, zn115_14, zn115_15, zn115_16, zn115_17, zn115_18]
def zEx115 : List zSm := []
theorem ze115 : ∀ q ∈ zEx115, SmOk LL q := fun _ h => absurd h List.not_mem_nil
def zYx115 : List (Nat × Nat) := [(100, 2), (100, 30), (101, 11), (101, 77)]
def zQx115 : List zSp := [(101, 4, 1, 0, 0, none)]
theorem zK115_0 : zcks LL TTl zMx115 zEx115 zYx115 zNx115 zXx115 zQx115 1 100000 [zn115_0, zn115_1] = true := by decide +kernel
theorem zK115_1 : zcks LL TTl zMx115 zEx115 zYx115 zNx115 zXx115 zQx115 1 100000 [zn115_2] = true := by decide +kernel
theorem zK115_2 : zcks LL TTl zMx115 zEx115 zYx115 zNx115 zXx115 zQx115 1 100000 [zn115_3] = true := by decide +kernel
theorem zK115_3 : zcks LL TTl zMx115 zEx115 zYx115 zNx115 zXx115 zQx115 1 100000 [zn115_4] = true := by decide +kernel
theorem zK115_4 : zcks LL TTl zMx115 zEx115 zYx115 zNx115 zXx115 zQx115 1 100000 [zn115_5] = true := by decide +kernel
theorem zK115_5 : zcks LL TTl zMx115 zEx115 zYx115 zNx115 zXx115 zQx115 1 100000 [zn115_6] = true := by decide +kernel
theorem zK115_6 : zcks LL TTl zMx115 zEx115 zYx115 zNx115 zXx115 zQx115 1 100000 [zn115_7, zn115_8, zn115_9, zn115_10, zn115_11, zn115_12, zn115_13, zn115_14] = true := by decide +kernel
theorem zK115_7 : zcks LL TTl zMx115 zEx115 zYx115 zNx115 zXx115 zQx115 1 100000 [zn115_15] = true := by decide +kernel
theorem zK115_8 : zcks LL TTl zMx115 zEx115 zYx115 zNx115 zXx115 zQx115 1 100000 [zn115_16] = true := by decide +kernel
theorem zK115_9 : zcks LL TTl zMx115 zEx115 zYx115 zNx115 zXx115 zQx115 1 100000 [zn115_17] = true := by decide +kernel
theorem zK115_10 : zcks LL TTl zMx115 zEx115 zYx115 zNx115 zXx115 zQx115 1 100000 [zn115_18] = true := by decide +kernel
theorem zk115 : ∀ nd ∈ zNx115, zck LL TTl zMx115 zEx115 zYx115 zNx115 zXx115 zQx115 1 100000 nd = true := zck2 (zcks_ok zK115_0) (zck2 (zcks_ok zK115_1) (zck2 (zcks_ok zK115_2) (zck2 (zcks_ok zK115_3) (zck2 (zcks_ok zK115_4) (zck2 (zcks_ok zK115_5) (zck2 (zcks_ok zK115_6) (zck2 (zcks_ok zK115_7) (zck2 (zcks_ok zK115_8) (zck2 (zcks_ok zK115_9) (zcks_ok zK115_10))))))))))
theorem zO115 : SmOk LL zSx115 := sm_ok (D := 1) (fu := 100000) (SP := zQx115) (NP := zYx115) (ND := zNx115) LL_1 TTl_ok ze115 zk115 (c := .ofNat 18) rfl List.mem_cons_self
/-- rates -/
def zMx116 : List Nat := [89, 90, 91]
def zTx116 : zS := ([(0, (2, 89, .ofNat 0)), (1, (0, 26, .ofNat 0)), (2, (0, 27, .ofNat 0)), (3, (0, 28, .ofNat 0))], [], [(90, zWr (.inr (0, 29, .ofNat 0)))], (26, .negSucc 2147483647, .ofNat 2147483647) :: (27, .negSucc 2147483647, .ofNat 2147483647) :: (28, .negSucc 2147483647, .ofNat 2147483647) :: (29, .ofNat 0, .ofNat 6) :: zWB, zWF, 30)
def zXx116 : zS := ([], [(0, 26, .ofNat 0)], [(90, zWr (.inr (0, 27, .ofNat 0)))], (26, .negSucc 2147483647, .ofNat 2147483647) :: (27, .ofNat 0, .ofNat 6) :: zWB, zWF, 28)
def zSx116 : zSm := (136, 3, zTx116, zXx116, zMx116)
def zn116_0 : zNd := (136, 0, zTx116, [], .ofNat 0, [])
def zNx116 : List zNd := [zn116_0]
def zEx116 : List zSm := [zSx113]
theorem ze116 : ∀ q ∈ zEx116, SmOk LL q := List.forall_mem_cons.mpr ⟨zO113, fun _ h => absurd h List.not_mem_nil⟩
def zYx116 : List (Nat × Nat) := []
def zQx116 : List zSp := []
theorem zK116 : zcks LL TTl zMx116 zEx116 zYx116 zNx116 zXx116 zQx116 2 100000 zNx116 = true := by decide +kernel
theorem zO116 : SmOk LL zSx116 := sm_ok (D := 2) (fu := 100000) (SP := zQx116) (NP := zYx116) (ND := zNx116) LL_1 TTl_ok ze116 (zcks_ok zK116) (c := .ofNat 0) rfl List.mem_cons_self
/-- strength -/
def zMx117 : List Nat := [89, 90, 91]
def zTx117 : zS := ([(0, (2, 89, .ofNat 0)), (1, (0, 26, .ofNat 0)), (2, (0, 27, .ofNat 0))], [], [(90, zWr (.inr (0, 28, .ofNat 0)))], (26, .negSucc 2147483647, .ofNat 2147483647) :: (27, .negSucc 2147483647, .ofNat 2147483647) :: (28, .ofNat 0, .ofNat 6) :: zWB, zWF, 29)
def zXx117 : zS := ([], [(0, 26, .ofNat 0)], [(90, zWr (.inr (0, 27, .ofNat 0)))], (26, .negSucc 2147483647, .ofNat 2147483647) :: (27, .ofNat 0, .ofNat 6) :: zWB, zWF, 28)
def zSx117 : zSm := (137, 3, zTx117, zXx117, zMx117)
def zn117_0 : zNd := (137, 0, zTx117, [], .ofNat 0, [])
def zNx117 : List zNd := [zn117_0]
def zEx117 : List zSm := [zSx114]
theorem ze117 : ∀ q ∈ zEx117, SmOk LL q := List.forall_mem_cons.mpr ⟨zO114, fun _ h => absurd h List.not_mem_nil⟩
def zYx117 : List (Nat × Nat) := []
def zQx117 : List zSp := []
theorem zK117 : zcks LL TTl zMx117 zEx117 zYx117 zNx117 zXx117 zQx117 2 100000 zNx117 = true := by decide +kernel
theorem zO117 : SmOk LL zSx117 := sm_ok (D := 2) (fu := 100000) (SP := zQx117) (NP := zYx117) (ND := zNx117) LL_1 TTl_ok ze117 (zcks_ok zK117) (c := .ofNat 0) rfl List.mem_cons_self
/-- rule -/
def zMx118 : List Nat := [89, 90, 91]
def zTx118 : zS := ([(0, (2, 89, .ofNat 0)), (1, (0, 26, .ofNat 0))], [], [(90, zWr (.inr (0, 27, .ofNat 0)))], (26, .negSucc 2147483647, .ofNat 2147483647) :: (27, .ofNat 0, .ofNat 6) :: zWB, zWF, 28)
def zXx118 : zS := ([], [(0, 26, .ofNat 0)], [(90, zWr (.inr (0, 27, .ofNat 0)))], (26, .negSucc 2147483647, .ofNat 2147483647) :: (27, .ofNat 0, .ofNat 6) :: zWB, zWF, 28)
def zSx118 : zSm := (138, 3, zTx118, zXx118, zMx118)
def zn118_0 : zNd := (138, 0, zTx118, [], .ofNat 0, [])
def zNx118 : List zNd := [zn118_0]
def zEx118 : List zSm := [zSx115]
theorem ze118 : ∀ q ∈ zEx118, SmOk LL q := List.forall_mem_cons.mpr ⟨zO115, fun _ h => absurd h List.not_mem_nil⟩
def zYx118 : List (Nat × Nat) := []
def zQx118 : List zSp := []
theorem zK118 : zcks LL TTl zMx118 zEx118 zYx118 zNx118 zXx118 zQx118 2 100000 zNx118 = true := by decide +kernel
theorem zO118 : SmOk LL zSx118 := sm_ok (D := 2) (fu := 100000) (SP := zQx118) (NP := zYx118) (ND := zNx118) LL_1 TTl_ok ze118 (zcks_ok zK118) (c := .ofNat 0) rfl List.mem_cons_self
/-- binds -/
def zMx119 : List Nat := [89, 90, 91]
def zTx119 : zS := ([(0, (2, 89, .ofNat 0)), (1, (0, 26, .ofNat 0)), (2, (0, 27, .ofNat 0))], [], [(90, zWr (.inr (0, 28, .ofNat 0)))], (26, .negSucc 2147483647, .ofNat 2147483647) :: (27, .negSucc 2147483647, .ofNat 2147483647) :: (28, .ofNat 0, .ofNat 6) :: zWB, zWF, 29)
def zXx119 : zS := ([], [(0, 26, .ofNat 0)], [(90, zWr (.inr (0, 27, .ofNat 0)))], (26, .negSucc 2, .ofNat 5) :: (27, .ofNat 0, .ofNat 6) :: zWB, zWF, 28)
def zSx119 : zSm := (140, 3, zTx119, zXx119, zMx119)
def zn119_0 : zNd := (140, 0, zTx119, [], .ofNat 82, [])
def zn119_1 : zNd := (140, 72, ([(0, (2, 89, .ofNat 0)), (1, (0, 26, .ofNat 0)), (2, (0, 27, .ofNat 0)), (3, (0, 28, .ofNat 0))], [], [(90, zWr (.inr (0, 29, .ofNat 0)))], (26, .ofNat 0, .ofNat 5) :: (27, .ofNat 0, .ofNat 5) :: (28, .ofNat 0, .ofNat 4) :: (29, .ofNat 0, .ofNat 5) :: zWB, zWF, 30), [], .ofNat 80, [(.negSucc 13, 28)])
def zn119_2 : zNd := (140, 117, ([(0, (2, 89, .ofNat 0)), (1, (0, 26, .ofNat 0)), (2, (0, 27, .ofNat 0)), (3, (0, 28, .ofNat 0)), (4, (0, 29, .ofNat 0))], [], [(90, zWr (.inr (0, 30, .ofNat 0)))], (4, .ofNat 1, .ofNat 4) :: (26, .ofNat 0, .ofNat 5) :: (27, .ofNat 0, .ofNat 5) :: (28, .ofNat 0, .ofNat 3) :: (29, .ofNat 0, .ofNat 5) :: (30, .ofNat 0, .ofNat 5) :: zWB, zWF, 31), [], .ofNat 78, [(.negSucc 13, 28), (.negSucc 1, 29)])
def zn119_3 : zNd := (140, 166, ([(0, (2, 89, .ofNat 0)), (1, (0, 26, .ofNat 0)), (2, (0, 27, .ofNat 0)), (3, (0, 28, .ofNat 0))], [], [(90, zWr (.inr (0, 29, .ofNat 0)))], (26, .ofNat 0, .ofNat 5) :: (27, .ofNat 0, .ofNat 5) :: (28, .ofNat 0, .ofNat 5) :: (29, .ofNat 0, .ofNat 5) :: zWB, zWF, 30), [], .ofNat 10, [(.negSucc 1, 28)])
def zNx119 : List zNd := [zn119_0, zn119_1, zn119_2, zn119_3]
def zEx119 : List zSm := [zSx113]
theorem ze119 : ∀ q ∈ zEx119, SmOk LL q := List.forall_mem_cons.mpr ⟨zO113, fun _ h => absurd h List.not_mem_nil⟩
def zYx119 : List (Nat × Nat) := [(140, 72), (140, 117), (140, 166)]
def zQx119 : List zSp := []
theorem zK119 : zcks LL TTl zMx119 zEx119 zYx119 zNx119 zXx119 zQx119 2 100000 zNx119 = true := by decide +kernel
theorem zO119 : SmOk LL zSx119 := sm_ok (D := 2) (fu := 100000) (SP := zQx119) (NP := zYx119) (ND := zNx119) LL_1 TTl_ok ze119 (zcks_ok zK119) (c := .ofNat 82) rfl List.mem_cons_self
