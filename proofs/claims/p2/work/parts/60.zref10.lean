/-! the checker on the methods, printed -/
/-- joins -/
def zMx108 : List Nat := [89, 90, 91]
def zTx108 : zS := ([(0, (2, 89, .ofNat 0)), (1, (0, 18, .ofNat 0)), (2, (0, 19, .ofNat 0))], [], [(90, zWr (.inr (0, 20, .ofNat 0)) (.inr (0, 21, .ofNat 0)))], (18, .negSucc 2147483647, .ofNat 2147483647) :: (19, .negSucc 2147483647, .ofNat 2147483647) :: (20, .ofNat 0, .ofNat 6) :: (21, .ofNat 0, .ofNat 4) :: zWB, zWF, 22)
def zXx108 : zS := ([], [(0, 18, .ofNat 0)], [(90, zWr (.inr (0, 19, .ofNat 0)) (.inr (0, 20, .ofNat 0)))], (18, .negSucc 2, .ofNat 3) :: (19, .ofNat 0, .ofNat 6) :: (20, .ofNat 0, .ofNat 4) :: zWB, zWF, 21)
def zSx108 : zSm := (141, 3, zTx108, zXx108, zMx108)
def zn108_0 : zNd := (141, 0, zTx108, [], .ofNat 78, [])
def zn108_1 : zNd := (141, 75, ([(0, (2, 89, .ofNat 0)), (1, (0, 18, .ofNat 0)), (2, (0, 19, .ofNat 0)), (3, (0, 20, .ofNat 0))], [], [(90, zWr (.inr (0, 21, .ofNat 0)) (.inr (0, 22, .ofNat 0)))], (18, .ofNat 0, .ofNat 3) :: (19, .ofNat 0, .ofNat 3) :: (20, .ofNat 0, .ofNat 6) :: (21, .ofNat 0, .ofNat 6) :: (22, .ofNat 1, .ofNat 4) :: zWB, zWF, 23), [], .ofNat 76, [(.negSucc 1, 20)])
def zn108_2 : zNd := (141, 200, ([(0, (2, 89, .ofNat 0)), (1, (0, 18, .ofNat 0)), (2, (0, 19, .ofNat 0)), (3, (0, 20, .ofNat 0)), (4, (0, 21, .ofNat 0))], [], [(90, zWr (.inr (0, 22, .ofNat 0)) (.inr (0, 23, .ofNat 0)))], (18, .ofNat 0, .ofNat 3) :: (19, .ofNat 0, .ofNat 3) :: (20, .ofNat 0, .ofNat 15) :: (21, .ofNat 0, .ofNat 3) :: (22, .ofNat 0, .ofNat 6) :: (23, .ofNat 0, .ofNat 3) :: zWB, zWF, 24), [], .ofNat 62, [(.negSucc 15, 21)])
def zn108_3 : zNd := (141, 236, ([(0, (2, 89, .ofNat 0)), (1, (0, 18, .ofNat 0)), (2, (0, 19, .ofNat 0)), (3, (0, 20, .ofNat 0)), (4, (0, 21, .ofNat 0)), (5, (0, 22, .ofNat 0))], [], [(90, zWr (.inr (0, 23, .ofNat 0)) (.inr (0, 24, .ofNat 0)))], (18, .ofNat 0, .ofNat 3) :: (19, .ofNat 0, .ofNat 3) :: (20, .ofNat 0, .ofNat 15) :: (21, .ofNat 0, .ofNat 2) :: (22, .ofNat 0, .ofNat 6) :: (23, .ofNat 0, .ofNat 6) :: (24, .ofNat 1, .ofNat 3) :: zWB, zWF, 25), [], .ofNat 60, [(.negSucc 15, 21), (.negSucc 1, 22)])
def zNx108 : List zNd := [zn108_0, zn108_1, zn108_2, zn108_3]
def zEx108 : List zSm := []
theorem ze108 : ∀ q ∈ zEx108, SmOk LL q := fun _ h => absurd h List.not_mem_nil
def zYx108 : List (Nat × Nat) := [(141, 75), (141, 200), (141, 236)]
def zQx108 : List zSp := [(101, 4, 1, 0, 0, none), (141, 135, 0, 2, 0, none), (141, 156, 0, 1, 0, none), (141, 165, 0, 3, 0, none)]
theorem zK108_0 : zcks LL TTl zMx108 zEx108 zYx108 zNx108 zXx108 zQx108 2 100000 [zn108_0] = true := by decide +kernel
theorem zK108_1 : zcks LL TTl zMx108 zEx108 zYx108 zNx108 zXx108 zQx108 2 100000 [zn108_1] = true := by decide +kernel
theorem zK108_2 : zcks LL TTl zMx108 zEx108 zYx108 zNx108 zXx108 zQx108 2 100000 [zn108_2, zn108_3] = true := by decide +kernel
theorem zk108 : ∀ nd ∈ zNx108, zck LL TTl zMx108 zEx108 zYx108 zNx108 zXx108 zQx108 2 100000 nd = true := zck2 (zcks_ok zK108_0) (zck2 (zcks_ok zK108_1) (zcks_ok zK108_2))
theorem zO108 : SmOk LL zSx108 := sm_ok (D := 2) (fu := 100000) (SP := zQx108) (NP := zYx108) (ND := zNx108) LL_1 TTl_ok ze108 zk108 (c := .ofNat 78) rfl List.mem_cons_self
