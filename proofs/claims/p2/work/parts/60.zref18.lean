/-! the checker on the methods, printed -/
/-- digest -/
def zMx120 : List Nat := [89, 94, 95, 96, 97, 98, 99]
def zTx120 : zS := ([(0, (2, 89, .ofNat 0))], [], [(90, zWr (.inr (0, 18, .ofNat 0)) (.inr (0, 19, .ofNat 0)))], (18, .ofNat 0, .ofNat 6) :: (19, .ofNat 0, .ofNat 4) :: zWB, zWF, 20)
def zXx120 : zS := ([], [(1, 2, .ofNat 0)], [], [(2, .negSucc 9223372036854775807, .ofNat 9223372036854775807)], [], 3)
def zSx120 : zSm := (167, 7, zTx120, zXx120, zMx120)
def zn120_0 : zNd := (167, 0, zTx120, [], .ofNat 256, [])
def zn120_1 : zNd := (167, 6, ([(0, (2, 89, .ofNat 0)), (1, (1, 18, .ofNat 0)), (3, (0, 19, .ofNat 0))], [], [(90, zWr (.inr (0, 20, .ofNat 0)) (.inr (0, 21, .ofNat 0)))], (18, .negSucc 9223372036854775807, .ofNat 9223372036854775807) :: (19, .ofNat 0, .ofNat 10) :: (20, .ofNat 0, .ofNat 6) :: (21, .ofNat 0, .ofNat 4) :: zWB, zWF, 22), [], .ofNat 254, [(.negSucc 1, 19)])
def zn120_2 : zNd := (167, 33, ([(0, (2, 89, .ofNat 0)), (1, (1, 18, .ofNat 0)), (3, (0, 19, .ofNat 0))], [], [(90, zWr (.inr (0, 20, .ofNat 0)) (.inr (0, 21, .ofNat 0)))], (18, .negSucc 9223372036854775807, .ofNat 9223372036854775807) :: (19, .ofNat 0, .ofNat 6) :: (20, .ofNat 0, .ofNat 6) :: (21, .ofNat 0, .ofNat 4) :: zWB, zWF, 22), [], .ofNat 232, [(.negSucc 11, 19)])
def zn120_3 : zNd := (167, 46, ([(0, (2, 89, .ofNat 0)), (1, (1, 18, .ofNat 0)), (3, (0, 19, .ofNat 0)), (4, (0, 20, .ofNat 0))], [], [(90, zWr (.inr (0, 21, .ofNat 0)) (.inr (0, 22, .ofNat 0)))], (18, .negSucc 9223372036854775807, .ofNat 9223372036854775807) :: (19, .ofNat 0, .ofNat 5) :: (20, .ofNat 0, .ofNat 4) :: (21, .ofNat 1, .ofNat 6) :: (22, .ofNat 0, .ofNat 4) :: zWB, zWF, 23), [], .ofNat 230, [(.negSucc 11, 19), (.negSucc 1, 20)])
def zn120_4 : zNd := (167, 81, ([(0, (2, 89, .ofNat 0)), (1, (1, 18, .ofNat 0)), (3, (0, 19, .ofNat 0))], [], [(90, zWr (.inr (0, 20, .ofNat 0)) (.inr (0, 21, .ofNat 0)))], (18, .negSucc 9223372036854775807, .ofNat 9223372036854775807) :: (19, .ofNat 0, .ofNat 4) :: (20, .ofNat 0, .ofNat 6) :: (21, .ofNat 0, .ofNat 4) :: zWB, zWF, 22), [], .ofNat 148, [(.negSucc 29, 19)])
def zn120_5 : zNd := (167, 94, ([(0, (2, 89, .ofNat 0)), (1, (1, 18, .ofNat 0)), (3, (0, 19, .ofNat 0)), (4, (0, 20, .ofNat 0))], [], [(90, zWr (.inr (0, 21, .ofNat 0)) (.inr (0, 22, .ofNat 0)))], (18, .negSucc 9223372036854775807, .ofNat 9223372036854775807) :: (19, .ofNat 0, .ofNat 3) :: (20, .ofNat 0, .ofNat 6) :: (21, .ofNat 0, .ofNat 6) :: (22, .ofNat 1, .ofNat 4) :: zWB, zWF, 23), [], .ofNat 146, [(.negSucc 29, 19), (.negSucc 1, 20)])
def zn120_6 : zNd := (167, 125, ([(0, (2, 89, .ofNat 0)), (1, (1, 18, .ofNat 0)), (3, (0, 19, .ofNat 0)), (4, (0, 20, .ofNat 0))], [], [(90, zWr (.inr (0, 21, .ofNat 0)) (.inr (0, 22, .ofNat 0)))], (18, .negSucc 9223372036854775807, .ofNat 9223372036854775807) :: (19, .ofNat 0, .ofNat 3) :: (20, .ofNat 0, .ofNat 6) :: (21, .ofNat 0, .ofNat 6) :: (22, .ofNat 1, .ofNat 4) :: zWB, zWF, 23), [], .ofNat 132, [(.negSucc 29, 19), (.negSucc 1, 20)])
def zNx120 : List zNd := [zn120_0, zn120_1, zn120_2, zn120_3, zn120_4, zn120_5, zn120_6]
def zEx120 : List zSm := [zSx93, zSx99, zSx116]
theorem ze120 : ∀ q ∈ zEx120, SmOk LL q := List.forall_mem_cons.mpr ⟨zO93, List.forall_mem_cons.mpr ⟨zO99, List.forall_mem_cons.mpr ⟨zO116, fun _ h => absurd h List.not_mem_nil⟩⟩⟩
def zYx120 : List (Nat × Nat) := [(167, 6), (167, 33), (167, 46), (167, 81), (167, 94), (167, 125)]
def zQx120 : List zSp := []
theorem zK120 : zcks LL TTl zMx120 zEx120 zYx120 zNx120 zXx120 zQx120 6 100000 zNx120 = true := by decide +kernel
theorem zO120 : SmOk LL zSx120 := sm_ok (D := 6) (fu := 100000) (SP := zQx120) (NP := zYx120) (ND := zNx120) LL_1 TTl_ok ze120 (zcks_ok zK120) (c := .ofNat 256) rfl List.mem_cons_self
