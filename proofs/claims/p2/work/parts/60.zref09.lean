/-! the checker on the methods, printed -/
/-- binds -/
def zMx107 : List Nat := [89, 90, 91]
def zTx107 : zS := ([(0, (2, 89, .ofNat 0)), (1, (0, 18, .ofNat 0)), (2, (0, 19, .ofNat 0))], [], [(90, zWr (.inr (0, 20, .ofNat 0)) (.inr (0, 21, .ofNat 0)))], (18, .negSucc 2147483647, .ofNat 2147483647) :: (19, .negSucc 2147483647, .ofNat 2147483647) :: (20, .ofNat 0, .ofNat 6) :: (21, .ofNat 0, .ofNat 4) :: zWB, zWF, 22)
def zXx107 : zS := ([], [(0, 18, .ofNat 0)], [(90, zWr (.inr (0, 19, .ofNat 0)) (.inr (0, 20, .ofNat 0)))], (18, .negSucc 2, .ofNat 5) :: (19, .ofNat 0, .ofNat 6) :: (20, .ofNat 0, .ofNat 4) :: zWB, zWF, 21)
def zSx107 : zSm := (140, 3, zTx107, zXx107, zMx107)
def zn107_0 : zNd := (140, 0, zTx107, [], .ofNat 82, [])
def zn107_1 : zNd := (140, 72, ([(0, (2, 89, .ofNat 0)), (1, (0, 18, .ofNat 0)), (2, (0, 19, .ofNat 0)), (3, (0, 20, .ofNat 0))], [], [(90, zWr (.inr (0, 21, .ofNat 0)) (.inr (0, 22, .ofNat 0)))], (18, .ofNat 0, .ofNat 5) :: (19, .ofNat 0, .ofNat 5) :: (20, .ofNat 0, .ofNat 4) :: (21, .ofNat 0, .ofNat 5) :: (22, .ofNat 0, .ofNat 4) :: zWB, zWF, 23), [], .ofNat 80, [(.negSucc 13, 20)])
def zn107_2 : zNd := (140, 117, ([(0, (2, 89, .ofNat 0)), (1, (0, 18, .ofNat 0)), (2, (0, 19, .ofNat 0)), (3, (0, 20, .ofNat 0)), (4, (0, 21, .ofNat 0))], [], [(90, zWr (.inr (0, 22, .ofNat 0)) (.inr (0, 23, .ofNat 0)))], (18, .ofNat 0, .ofNat 5) :: (19, .ofNat 0, .ofNat 5) :: (20, .ofNat 0, .ofNat 3) :: (21, .ofNat 0, .ofNat 5) :: (22, .ofNat 0, .ofNat 5) :: (23, .ofNat 1, .ofNat 4) :: zWB, zWF, 24), [], .ofNat 78, [(.negSucc 13, 20), (.negSucc 1, 21)])
def zn107_3 : zNd := (140, 166, ([(0, (2, 89, .ofNat 0)), (1, (0, 18, .ofNat 0)), (2, (0, 19, .ofNat 0)), (3, (0, 20, .ofNat 0))], [], [(90, zWr (.inr (0, 21, .ofNat 0)) (.inr (0, 22, .ofNat 0)))], (18, .ofNat 0, .ofNat 5) :: (19, .ofNat 0, .ofNat 5) :: (20, .ofNat 0, .ofNat 5) :: (21, .ofNat 0, .ofNat 5) :: (22, .ofNat 0, .ofNat 4) :: zWB, zWF, 23), [], .ofNat 10, [(.negSucc 1, 20)])
def zNx107 : List zNd := [zn107_0, zn107_1, zn107_2, zn107_3]
def zEx107 : List zSm := []
theorem ze107 : ∀ q ∈ zEx107, SmOk LL q := fun _ h => absurd h List.not_mem_nil
def zYx107 : List (Nat × Nat) := [(140, 72), (140, 117), (140, 166)]
def zQx107 : List zSp := [(101, 4, 1, 0, 0, none)]
theorem zK107_0 : zcks LL TTl zMx107 zEx107 zYx107 zNx107 zXx107 zQx107 2 100000 [zn107_0] = true := by decide +kernel
theorem zK107_1 : zcks LL TTl zMx107 zEx107 zYx107 zNx107 zXx107 zQx107 2 100000 [zn107_1, zn107_2, zn107_3] = true := by decide +kernel
theorem zk107 : ∀ nd ∈ zNx107, zck LL TTl zMx107 zEx107 zYx107 zNx107 zXx107 zQx107 2 100000 nd = true := zck2 (zcks_ok zK107_0) (zcks_ok zK107_1)
theorem zO107 : SmOk LL zSx107 := sm_ok (D := 2) (fu := 100000) (SP := zQx107) (NP := zYx107) (ND := zNx107) LL_1 TTl_ok ze107 zk107 (c := .ofNat 82) rfl List.mem_cons_self
