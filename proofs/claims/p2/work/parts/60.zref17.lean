/-! the checker on the methods, printed -/
/-- digest -/
def zMx125 : List Nat := [89, 94, 95, 96, 97, 98, 99]
def zTx125 : zS := ([(0, (2, 89, .ofNat 0))], [], [(90, zWr (.inr (0, 26, .ofNat 0)))], (26, .ofNat 0, .ofNat 6) :: zWB, zWF, 27)
def zXx125 : zS := ([], [(1, 2, .ofNat 0)], [], [(2, .negSucc 9223372036854775807, .ofNat 9223372036854775807)], [], 3)
def zSx125 : zSm := (167, 7, zTx125, zXx125, zMx125)
def zn125_0 : zNd := (167, 0, zTx125, [], .ofNat 256, [])
def zn125_1 : zNd := (167, 6, ([(0, (2, 89, .ofNat 0)), (1, (1, 26, .ofNat 0)), (3, (0, 27, .ofNat 0))], [], [(90, zWr (.inr (0, 28, .ofNat 0)))], (26, .negSucc 9223372036854775807, .ofNat 9223372036854775807) :: (27, .ofNat 0, .ofNat 10) :: (28, .ofNat 0, .ofNat 6) :: zWB, zWF, 29), [], .ofNat 254, [(.negSucc 1, 27)])
def zn125_2 : zNd := (167, 33, ([(0, (2, 89, .ofNat 0)), (1, (1, 26, .ofNat 0)), (3, (0, 27, .ofNat 0))], [], [(90, zWr (.inr (0, 28, .ofNat 0)))], (26, .negSucc 9223372036854775807, .ofNat 9223372036854775807) :: (27, .ofNat 0, .ofNat 6) :: (28, .ofNat 0, .ofNat 6) :: zWB, zWF, 29), [], .ofNat 232, [(.negSucc 11, 27)])
def zn125_3 : zNd := (167, 46, ([(0, (2, 89, .ofNat 0)), (1, (1, 26, .ofNat 0)), (3, (0, 27, .ofNat 0)), (4, (0, 28, .ofNat 0))], [], [(90, zWr (.inr (0, 29, .ofNat 0)))], (26, .negSucc 9223372036854775807, .ofNat 9223372036854775807) :: (27, .ofNat 0, .ofNat 5) :: (28, .ofNat 0, .ofNat 4) :: (29, .ofNat 1, .ofNat 6) :: zWB, zWF, 30), [], .ofNat 230, [(.negSucc 11, 27), (.negSucc 1, 28)])
def zn125_4 : zNd := (167, 81, ([(0, (2, 89, .ofNat 0)), (1, (1, 26, .ofNat 0)), (3, (0, 27, .ofNat 0))], [], [(90, zWr (.inr (0, 28, .ofNat 0)))], (26, .negSucc 9223372036854775807, .ofNat 9223372036854775807) :: (27, .ofNat 0, .ofNat 4) :: (28, .ofNat 0, .ofNat 6) :: zWB, zWF, 29), [], .ofNat 148, [(.negSucc 29, 27)])
def zn125_5 : zNd := (167, 94, ([(0, (2, 89, .ofNat 0)), (1, (1, 26, .ofNat 0)), (3, (0, 27, .ofNat 0)), (4, (0, 28, .ofNat 0))], [], [(90, zWr (.inr (0, 29, .ofNat 0)))], (4, .ofNat 1, .ofNat 4) :: (26, .negSucc 9223372036854775807, .ofNat 9223372036854775807) :: (27, .ofNat 0, .ofNat 3) :: (28, .ofNat 0, .ofNat 6) :: (29, .ofNat 0, .ofNat 6) :: zWB, zWF, 30), [], .ofNat 146, [(.negSucc 29, 27), (.negSucc 1, 28)])
def zn125_6 : zNd := (167, 125, ([(0, (2, 89, .ofNat 0)), (1, (1, 26, .ofNat 0)), (3, (0, 27, .ofNat 0)), (4, (0, 28, .ofNat 0))], [], [(90, zWr (.inr (0, 29, .ofNat 0)))], (4, .ofNat 1, .ofNat 4) :: (26, .negSucc 9223372036854775807, .ofNat 9223372036854775807) :: (27, .ofNat 0, .ofNat 3) :: (28, .ofNat 0, .ofNat 6) :: (29, .ofNat 0, .ofNat 6) :: zWB, zWF, 30), [], .ofNat 132, [(.negSucc 29, 27), (.negSucc 1, 28)])
def zNx125 : List zNd := [zn125_0, zn125_1, zn125_2, zn125_3, zn125_4, zn125_5, zn125_6]
def zEx125 : List zSm := [zSx93, zSx99, zSx121]
theorem ze125 : ∀ q ∈ zEx125, SmOk LL q := List.forall_mem_cons.mpr ⟨zO93, List.forall_mem_cons.mpr ⟨zO99, List.forall_mem_cons.mpr ⟨zO121, fun _ h => absurd h List.not_mem_nil⟩⟩⟩
def zYx125 : List (Nat × Nat) := [(167, 6), (167, 33), (167, 46), (167, 81), (167, 94), (167, 125)]
def zQx125 : List zSp := []
theorem zK125 : zcks LL TTl zMx125 zEx125 zYx125 zNx125 zXx125 zQx125 6 100000 zNx125 = true := by decide +kernel
theorem zO125 : SmOk LL zSx125 := sm_ok (D := 6) (fu := 100000) (SP := zQx125) (NP := zYx125) (ND := zNx125) LL_1 TTl_ok ze125 (zcks_ok zK125) (c := .ofNat 256) rfl List.mem_cons_self
