/-! the checker on the methods, printed -/
/-- digest -/
def zMx132 : List Nat := [89, 94, 95, 96, 97, 98, 99]
def zTx132 : zS := ([(0, (2, 89, .ofNat 0))], [], [(90, zWr (.inr (0, 26, .ofNat 0)))], (26, .ofNat 0, .ofNat 6) :: zWB, zWF, 27)
def zXx132 : zS := ([], [(1, 2, .ofNat 0)], [], [(2, .negSucc 9223372036854775807, .ofNat 9223372036854775807)], [], 3)
def zSx132 : zSm := (167, 7, zTx132, zXx132, zMx132)
def zn132_0 : zNd := (167, 0, zTx132, [], .ofNat 256, [])
def zn132_1 : zNd := (167, 6, ([(0, (2, 89, .ofNat 0)), (1, (1, 26, .ofNat 0)), (3, (0, 27, .ofNat 0))], [], [(90, zWr (.inr (0, 28, .ofNat 0)))], (26, .negSucc 9223372036854775807, .ofNat 9223372036854775807) :: (27, .ofNat 0, .ofNat 10) :: (28, .ofNat 0, .ofNat 6) :: zWB, zWF, 29), [], .ofNat 254, [(.negSucc 1, 27)])
def zn132_2 : zNd := (167, 33, ([(0, (2, 89, .ofNat 0)), (1, (1, 26, .ofNat 0)), (3, (0, 27, .ofNat 0))], [], [(90, zWr (.inr (0, 28, .ofNat 0)))], (26, .negSucc 9223372036854775807, .ofNat 9223372036854775807) :: (27, .ofNat 0, .ofNat 6) :: (28, .ofNat 0, .ofNat 6) :: zWB, zWF, 29), [], .ofNat 232, [(.negSucc 11, 27)])
def zn132_3 : zNd := (167, 46, ([(0, (2, 89, .ofNat 0)), (1, (1, 26, .ofNat 0)), (3, (0, 27, .ofNat 0)), (4, (0, 28, .ofNat 0))], [], [(90, zWr (.inr (0, 29, .ofNat 0)))], (26, .negSucc 9223372036854775807, .ofNat 9223372036854775807) :: (27, .ofNat 0, .ofNat 5) :: (28, .ofNat 0, .ofNat 4) :: (29, .ofNat 1, .ofNat 6) :: zWB, zWF, 30), [], .ofNat 230, [(.negSucc 11, 27), (.negSucc 1, 28)])
def zn132_4 : zNd := (167, 81, ([(0, (2, 89, .ofNat 0)), (1, (1, 26, .ofNat 0)), (3, (0, 27, .ofNat 0))], [], [(90, zWr (.inr (0, 28, .ofNat 0)))], (26, .negSucc 9223372036854775807, .ofNat 9223372036854775807) :: (27, .ofNat 0, .ofNat 4) :: (28, .ofNat 0, .ofNat 6) :: zWB, zWF, 29), [], .ofNat 148, [(.negSucc 29, 27)])
def zn132_5 : zNd := (167, 94, ([(0, (2, 89, .ofNat 0)), (1, (1, 26, .ofNat 0)), (3, (0, 27, .ofNat 0)), (4, (0, 28, .ofNat 0))], [], [(90, zWr (.inr (0, 29, .ofNat 0)))], (4, .ofNat 1, .ofNat 4) :: (26, .negSucc 9223372036854775807, .ofNat 9223372036854775807) :: (27, .ofNat 0, .ofNat 3) :: (28, .ofNat 0, .ofNat 6) :: (29, .ofNat 0, .ofNat 6) :: zWB, zWF, 30), [], .ofNat 146, [(.negSucc 29, 27), (.negSucc 1, 28)])
def zn132_6 : zNd := (167, 125, ([(0, (2, 89, .ofNat 0)), (1, (1, 26, .ofNat 0)), (3, (0, 27, .ofNat 0)), (4, (0, 28, .ofNat 0))], [], [(90, zWr (.inr (0, 29, .ofNat 0)))], (4, .ofNat 1, .ofNat 4) :: (26, .negSucc 9223372036854775807, .ofNat 9223372036854775807) :: (27, .ofNat 0, .ofNat 3) :: (28, .ofNat 0, .ofNat 6) :: (29, .ofNat 0, .ofNat 6) :: zWB, zWF, 30), [], .ofNat 132, [(.negSucc 29, 27), (.negSucc 1, 28)])
def zNx132 : List zNd := [zn132_0, zn132_1, zn132_2, zn132_3, zn132_4, zn132_5, zn132_6]
def zEx132 : List zSm := [zSx86, zSx100, zSx106, zSx128]
theorem ze132 : ∀ q ∈ zEx132, SmOk LL q := List.forall_mem_cons.mpr ⟨zO86, List.forall_mem_cons.mpr ⟨zO100, List.forall_mem_cons.mpr ⟨zO106, List.forall_mem_cons.mpr ⟨zO128, fun _ h => absurd h List.not_mem_nil⟩⟩⟩⟩
def zYx132 : List (Nat × Nat) := [(167, 6), (167, 33), (167, 46), (167, 81), (167, 94), (167, 125)]
def zQx132 : List zSp := []
theorem zK132 : zcks LL TTl zMx132 zEx132 zYx132 zNx132 zXx132 zQx132 6 100000 zNx132 = true := by decide +kernel
theorem zO132 : SmOk LL zSx132 := sm_ok (D := 6) (fu := 100000) (SP := zQx132) (NP := zYx132) (ND := zNx132) LL_1 TTl_ok ze132 (zcks_ok zK132) (c := .ofNat 256) rfl List.mem_cons_self
