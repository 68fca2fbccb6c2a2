/-! the checker on the methods, printed -/
/-- isAheadOf -/
def zMx55 : List Nat := []
def zTx55 : zS := ([(0, (2, 89, .ofNat 0)), (1, (0, 26, .ofNat 0)), (2, (0, 27, .ofNat 0))], [], [(90, zWr (.inr (0, 28, .ofNat 0)))], (26, .ofNat 0, .ofNat 3) :: (27, .ofNat 0, .ofNat 3) :: (28, .ofNat 0, .ofNat 6) :: zWB, zWF, 29)
def zXx55 : zS := ([], [(0, 2, .ofNat 0)], [], [(2, .ofNat 0, .ofNat 1)], [], 3)
def zSx55 : zSm := (124, 2, zTx55, zXx55, zMx55)
def zn55_0 : zNd := (124, 0, zTx55, [], .ofNat 0, [])
def zNx55 : List zNd := [zn55_0]
def zEx55 : List zSm := []
theorem ze55 : ∀ q ∈ zEx55, SmOk LL q := fun _ h => absurd h List.not_mem_nil
def zYx55 : List (Nat × Nat) := []
def zQx55 : List zSp := []
theorem zK55 : zcks LL TTl zMx55 zEx55 zYx55 zNx55 zXx55 zQx55 1 100000 zNx55 = true := by decide +kernel
theorem zO55 : SmOk LL zSx55 := sm_ok (D := 1) (fu := 100000) (SP := zQx55) (NP := zYx55) (ND := zNx55) LL_1 TTl_ok ze55 (zcks_ok zK55) (c := .ofNat 0) rfl List.mem_cons_self
/-- laysTurns0 -/
def zMx56 : List Nat := [94, 95]
def zTx56 : zS := ([(0, (2, 89, .ofNat 0))], [], [(90, zWr (.inr (0, 1, .ofNat 0)))], (4, .ofNat 1, .ofNat 4) :: zWB, zWF, 26)
def zXx56 : zS := ([], [], [(94, .inl [.inl (.negSucc 0, .negSucc 0), .inl (.negSucc 0, .negSucc 0), .inl (.negSucc 0, .negSucc 0), .inl (.negSucc 0, .negSucc 0), .inl (.negSucc 0, .negSucc 0), .inl (.negSucc 0, .negSucc 0)])], [], [], 2)
def zSx56 : zSm := (125, 1, zTx56, zXx56, zMx56)
def zn56_0 : zNd := (125, 0, zTx56, [], .ofNat 7, [])
def zn56_1 : zNd := (125, 22, ([(1, (0, 1, .ofNat 0)), (0, (2, 89, .ofNat 0))], [], [(90, zWr (.inr (0, 1, .ofNat 0)))], (4, .ofNat 1, .ofNat 4) :: zWB, zWF, 26), [], .ofNat 6, [])
def zn56_2 : zNd := (125, 22, ([(1, (0, 1, .ofNat 1)), (2, (0, 1, .negSucc 0)), (3, (0, 1, .ofNat 0)), (0, (2, 89, .ofNat 0))], [], [(90, zWr (.inr (0, 1, .ofNat 0))), (94, .inl [.inr (0, 1, .negSucc 0), .inl (.negSucc 0, .ofNat 3), .inl (.negSucc 0, .ofNat 3), .inl (.negSucc 0, .ofNat 3), .inl (.negSucc 0, .ofNat 3), .inl (.negSucc 0, .ofNat 3)])], (4, .ofNat 1, .ofNat 4) :: zWB, zWF, 26), [], .ofNat 5, [])
def zn56_3 : zNd := (125, 22, ([(1, (0, 1, .ofNat 2)), (2, (0, 1, .negSucc 0)), (3, (0, 1, .ofNat 0)), (0, (2, 89, .ofNat 0))], [], [(90, zWr (.inr (0, 1, .ofNat 0))), (94, .inl [.inr (0, 1, .negSucc 0), .inr (0, 1, .negSucc 0), .inl (.negSucc 0, .ofNat 3), .inl (.negSucc 0, .ofNat 3), .inl (.negSucc 0, .ofNat 3), .inl (.negSucc 0, .ofNat 3)])], (4, .ofNat 1, .ofNat 4) :: zWB, zWF, 26), [], .ofNat 4, [])
def zn56_4 : zNd := (125, 22, ([(1, (0, 1, .ofNat 3)), (2, (0, 1, .negSucc 0)), (3, (0, 1, .ofNat 0)), (0, (2, 89, .ofNat 0))], [], [(90, zWr (.inr (0, 1, .ofNat 0))), (94, .inl [.inr (0, 1, .negSucc 0), .inr (0, 1, .negSucc 0), .inr (0, 1, .negSucc 0), .inl (.negSucc 0, .ofNat 3), .inl (.negSucc 0, .ofNat 3), .inl (.negSucc 0, .ofNat 3)])], (4, .ofNat 1, .ofNat 4) :: zWB, zWF, 26), [], .ofNat 3, [])
def zn56_5 : zNd := (125, 22, ([(1, (0, 1, .ofNat 4)), (2, (0, 1, .negSucc 0)), (3, (0, 1, .ofNat 0)), (0, (2, 89, .ofNat 0))], [], [(90, zWr (.inr (0, 1, .ofNat 0))), (94, .inl [.inr (0, 1, .negSucc 0), .inr (0, 1, .negSucc 0), .inr (0, 1, .negSucc 0), .inr (0, 1, .negSucc 0), .inl (.negSucc 0, .ofNat 3), .inl (.negSucc 0, .ofNat 3)])], (4, .ofNat 1, .ofNat 4) :: zWB, zWF, 26), [], .ofNat 2, [])
def zn56_6 : zNd := (125, 22, ([(1, (0, 1, .ofNat 5)), (2, (0, 1, .negSucc 0)), (3, (0, 1, .ofNat 0)), (0, (2, 89, .ofNat 0))], [], [(90, zWr (.inr (0, 1, .ofNat 0))), (94, .inl [.inr (0, 1, .negSucc 0), .inr (0, 1, .negSucc 0), .inr (0, 1, .negSucc 0), .inr (0, 1, .negSucc 0), .inr (0, 1, .negSucc 0), .inl (.negSucc 0, .ofNat 3)])], (4, .ofNat 1, .ofNat 4) :: zWB, zWF, 26), [], .ofNat 1, [])
def zn56_7 : zNd := (125, 22, ([(1, (0, 1, .ofNat 6)), (2, (0, 1, .negSucc 0)), (3, (0, 1, .ofNat 0)), (0, (2, 89, .ofNat 0))], [], [(90, zWr (.inr (0, 1, .ofNat 0))), (94, .inl [.inr (0, 1, .negSucc 0), .inr (0, 1, .negSucc 0), .inr (0, 1, .negSucc 0), .inr (0, 1, .negSucc 0), .inr (0, 1, .negSucc 0), .inr (0, 1, .negSucc 0)])], (4, .ofNat 1, .ofNat 4) :: zWB, zWF, 26), [], .ofNat 0, [])
def zNx56 : List zNd := [zn56_0, zn56_1, zn56_2, zn56_3, zn56_4, zn56_5, zn56_6, zn56_7]
def zEx56 : List zSm := []
theorem ze56 : ∀ q ∈ zEx56, SmOk LL q := fun _ h => absurd h List.not_mem_nil
def zYx56 : List (Nat × Nat) := [(125, 22)]
def zQx56 : List zSp := []
theorem zK56 : zcks LL TTl zMx56 zEx56 zYx56 zNx56 zXx56 zQx56 0 100000 zNx56 = true := by decide +kernel
theorem zO56 : SmOk LL zSx56 := sm_ok (D := 0) (fu := 100000) (SP := zQx56) (NP := zYx56) (ND := zNx56) LL_1 TTl_ok ze56 (zcks_ok zK56) (c := .ofNat 7) rfl List.mem_cons_self
/-- laysTurns1 -/
def zMx57 : List Nat := [94, 95]
def zTx57 : zS := ([(0, (2, 89, .ofNat 0))], [], [(90, zWr (.inr (0, 1, .ofNat 1)))], (4, .ofNat 1, .ofNat 4) :: zWB, zWF, 26)
def zXx57 : zS := ([], [], [(94, .inl [.inl (.ofNat 0, .ofNat 3), .inl (.negSucc 0, .negSucc 0), .inl (.negSucc 0, .negSucc 0), .inl (.negSucc 0, .negSucc 0), .inl (.negSucc 0, .negSucc 0), .inl (.negSucc 0, .negSucc 0)])], [], [], 2)
def zSx57 : zSm := (125, 3, zTx57, zXx57, zMx57)
def zn57_0 : zNd := (125, 0, zTx57, [], .ofNat 7, [])
def zn57_1 : zNd := (125, 22, ([(1, (0, 1, .ofNat 0)), (0, (2, 89, .ofNat 0))], [], [(90, zWr (.inr (0, 1, .ofNat 1)))], (4, .ofNat 1, .ofNat 4) :: zWB, zWF, 26), [], .ofNat 6, [])
def zn57_2 : zNd := (125, 22, ([(1, (0, 1, .ofNat 1)), (0, (2, 89, .ofNat 0)), (2, (0, 26, .ofNat 0)), (3, (0, 27, .ofNat 0))], [], [(90, zWr (.inr (0, 1, .ofNat 1))), (94, .inl [.inr (0, 26, .ofNat 0), .inl (.negSucc 0, .ofNat 3), .inl (.negSucc 0, .ofNat 3), .inl (.negSucc 0, .ofNat 3), .inl (.negSucc 0, .ofNat 3), .inl (.negSucc 0, .ofNat 3)])], (4, .ofNat 1, .ofNat 4) :: (26, .ofNat 0, .ofNat 3) :: (27, .ofNat 1, .ofNat 4) :: zWB, zWF, 28), [], .ofNat 5, [])
def zn57_3 : zNd := (125, 22, ([(1, (0, 1, .ofNat 2)), (2, (0, 1, .negSucc 0)), (3, (0, 1, .ofNat 0)), (0, (2, 89, .ofNat 0))], [], [(90, zWr (.inr (0, 1, .ofNat 1))), (94, .inl [.inr (0, 26, .ofNat 0), .inr (0, 1, .negSucc 0), .inl (.negSucc 0, .ofNat 3), .inl (.negSucc 0, .ofNat 3), .inl (.negSucc 0, .ofNat 3), .inl (.negSucc 0, .ofNat 3)])], (4, .ofNat 1, .ofNat 4) :: (26, .ofNat 0, .ofNat 3) :: zWB, zWF, 27), [], .ofNat 4, [])
def zn57_4 : zNd := (125, 22, ([(1, (0, 1, .ofNat 3)), (2, (0, 1, .negSucc 0)), (3, (0, 1, .ofNat 0)), (0, (2, 89, .ofNat 0))], [], [(90, zWr (.inr (0, 1, .ofNat 1))), (94, .inl [.inr (0, 26, .ofNat 0), .inr (0, 1, .negSucc 0), .inr (0, 1, .negSucc 0), .inl (.negSucc 0, .ofNat 3), .inl (.negSucc 0, .ofNat 3), .inl (.negSucc 0, .ofNat 3)])], (4, .ofNat 1, .ofNat 4) :: (26, .ofNat 0, .ofNat 3) :: zWB, zWF, 27), [], .ofNat 3, [])
def zn57_5 : zNd := (125, 22, ([(1, (0, 1, .ofNat 4)), (2, (0, 1, .negSucc 0)), (3, (0, 1, .ofNat 0)), (0, (2, 89, .ofNat 0))], [], [(90, zWr (.inr (0, 1, .ofNat 1))), (94, .inl [.inr (0, 26, .ofNat 0), .inr (0, 1, .negSucc 0), .inr (0, 1, .negSucc 0), .inr (0, 1, .negSucc 0), .inl (.negSucc 0, .ofNat 3), .inl (.negSucc 0, .ofNat 3)])], (4, .ofNat 1, .ofNat 4) :: (26, .ofNat 0, .ofNat 3) :: zWB, zWF, 27), [], .ofNat 2, [])
def zn57_6 : zNd := (125, 22, ([(1, (0, 1, .ofNat 5)), (2, (0, 1, .negSucc 0)), (3, (0, 1, .ofNat 0)), (0, (2, 89, .ofNat 0))], [], [(90, zWr (.inr (0, 1, .ofNat 1))), (94, .inl [.inr (0, 26, .ofNat 0), .inr (0, 1, .negSucc 0), .inr (0, 1, .negSucc 0), .inr (0, 1, .negSucc 0), .inr (0, 1, .negSucc 0), .inl (.negSucc 0, .ofNat 3)])], (4, .ofNat 1, .ofNat 4) :: (26, .ofNat 0, .ofNat 3) :: zWB, zWF, 27), [], .ofNat 1, [])
def zn57_7 : zNd := (125, 22, ([(1, (0, 1, .ofNat 6)), (2, (0, 1, .negSucc 0)), (3, (0, 1, .ofNat 0)), (0, (2, 89, .ofNat 0))], [], [(90, zWr (.inr (0, 1, .ofNat 1))), (94, .inl [.inr (0, 26, .ofNat 0), .inr (0, 1, .negSucc 0), .inr (0, 1, .negSucc 0), .inr (0, 1, .negSucc 0), .inr (0, 1, .negSucc 0), .inr (0, 1, .negSucc 0)])], (4, .ofNat 1, .ofNat 4) :: (26, .ofNat 0, .ofNat 3) :: zWB, zWF, 27), [], .ofNat 0, [])
def zNx57 : List zNd := [zn57_0, zn57_1, zn57_2, zn57_3, zn57_4, zn57_5, zn57_6, zn57_7]
def zEx57 : List zSm := [zSx55]
theorem ze57 : ∀ q ∈ zEx57, SmOk LL q := List.forall_mem_cons.mpr ⟨zO55, fun _ h => absurd h List.not_mem_nil⟩
def zYx57 : List (Nat × Nat) := [(125, 22)]
def zQx57 : List zSp := []
theorem zK57 : zcks LL TTl zMx57 zEx57 zYx57 zNx57 zXx57 zQx57 2 100000 zNx57 = true := by decide +kernel
theorem zO57 : SmOk LL zSx57 := sm_ok (D := 2) (fu := 100000) (SP := zQx57) (NP := zYx57) (ND := zNx57) LL_1 TTl_ok ze57 (zcks_ok zK57) (c := .ofNat 7) rfl List.mem_cons_self
/-- laysTurns2 -/
def zMx58 : List Nat := [94, 95]
def zTx58 : zS := ([(0, (2, 89, .ofNat 0))], [], [(90, zWr (.inr (0, 1, .ofNat 2)))], (4, .ofNat 1, .ofNat 4) :: zWB, zWF, 26)
def zXx58 : zS := ([], [], [(94, .inl [.inl (.ofNat 0, .ofNat 3), .inl (.ofNat 0, .ofNat 3), .inl (.negSucc 0, .negSucc 0), .inl (.negSucc 0, .negSucc 0), .inl (.negSucc 0, .negSucc 0), .inl (.negSucc 0, .negSucc 0)])], [], [], 2)
def zSx58 : zSm := (125, 3, zTx58, zXx58, zMx58)
def zn58_0 : zNd := (125, 0, zTx58, [], .ofNat 7, [])
def zn58_1 : zNd := (125, 22, ([(1, (0, 1, .ofNat 0)), (0, (2, 89, .ofNat 0))], [], [(90, zWr (.inr (0, 1, .ofNat 2)))], (4, .ofNat 1, .ofNat 4) :: zWB, zWF, 26), [], .ofNat 6, [])
def zn58_2 : zNd := (125, 22, ([(1, (0, 1, .ofNat 1)), (0, (2, 89, .ofNat 0)), (2, (0, 26, .ofNat 0)), (3, (0, 27, .ofNat 0))], [], [(90, zWr (.inr (0, 1, .ofNat 2))), (94, .inl [.inr (0, 26, .ofNat 0), .inl (.negSucc 0, .ofNat 3), .inl (.negSucc 0, .ofNat 3), .inl (.negSucc 0, .ofNat 3), .inl (.negSucc 0, .ofNat 3), .inl (.negSucc 0, .ofNat 3)])], (4, .ofNat 1, .ofNat 4) :: (26, .ofNat 0, .ofNat 3) :: (27, .ofNat 1, .ofNat 4) :: zWB, zWF, 28), [], .ofNat 5, [])
def zn58_3 : zNd := (125, 22, ([(1, (0, 1, .ofNat 2)), (0, (2, 89, .ofNat 0)), (2, (0, 26, .ofNat 0)), (3, (0, 27, .ofNat 0))], [], [(90, zWr (.inr (0, 1, .ofNat 2))), (94, .inl [.inr (0, 28, .ofNat 0), .inr (0, 26, .ofNat 0), .inl (.negSucc 0, .ofNat 3), .inl (.negSucc 0, .ofNat 3), .inl (.negSucc 0, .ofNat 3), .inl (.negSucc 0, .ofNat 3)])], (4, .ofNat 1, .ofNat 4) :: (26, .ofNat 0, .ofNat 3) :: (27, .ofNat 1, .ofNat 4) :: (28, .ofNat 0, .ofNat 3) :: zWB, zWF, 29), [], .ofNat 4, [])
def zn58_4 : zNd := (125, 22, ([(1, (0, 1, .ofNat 3)), (2, (0, 1, .negSucc 0)), (3, (0, 1, .ofNat 0)), (0, (2, 89, .ofNat 0))], [], [(90, zWr (.inr (0, 1, .ofNat 2))), (94, .inl [.inr (0, 26, .ofNat 0), .inr (0, 27, .ofNat 0), .inr (0, 1, .negSucc 0), .inl (.negSucc 0, .ofNat 3), .inl (.negSucc 0, .ofNat 3), .inl (.negSucc 0, .ofNat 3)])], (4, .ofNat 1, .ofNat 4) :: (26, .ofNat 0, .ofNat 3) :: (27, .ofNat 0, .ofNat 3) :: zWB, zWF, 28), [], .ofNat 3, [])
def zn58_5 : zNd := (125, 22, ([(1, (0, 1, .ofNat 4)), (2, (0, 1, .negSucc 0)), (3, (0, 1, .ofNat 0)), (0, (2, 89, .ofNat 0))], [], [(90, zWr (.inr (0, 1, .ofNat 2))), (94, .inl [.inr (0, 26, .ofNat 0), .inr (0, 27, .ofNat 0), .inr (0, 1, .negSucc 0), .inr (0, 1, .negSucc 0), .inl (.negSucc 0, .ofNat 3), .inl (.negSucc 0, .ofNat 3)])], (4, .ofNat 1, .ofNat 4) :: (26, .ofNat 0, .ofNat 3) :: (27, .ofNat 0, .ofNat 3) :: zWB, zWF, 28), [], .ofNat 2, [])
def zn58_6 : zNd := (125, 22, ([(1, (0, 1, .ofNat 5)), (2, (0, 1, .negSucc 0)), (3, (0, 1, .ofNat 0)), (0, (2, 89, .ofNat 0))], [], [(90, zWr (.inr (0, 1, .ofNat 2))), (94, .inl [.inr (0, 26, .ofNat 0), .inr (0, 27, .ofNat 0), .inr (0, 1, .negSucc 0), .inr (0, 1, .negSucc 0), .inr (0, 1, .negSucc 0), .inl (.negSucc 0, .ofNat 3)])], (4, .ofNat 1, .ofNat 4) :: (26, .ofNat 0, .ofNat 3) :: (27, .ofNat 0, .ofNat 3) :: zWB, zWF, 28), [], .ofNat 1, [])
def zn58_7 : zNd := (125, 22, ([(1, (0, 1, .ofNat 6)), (2, (0, 1, .negSucc 0)), (3, (0, 1, .ofNat 0)), (0, (2, 89, .ofNat 0))], [], [(90, zWr (.inr (0, 1, .ofNat 2))), (94, .inl [.inr (0, 26, .ofNat 0), .inr (0, 27, .ofNat 0), .inr (0, 1, .negSucc 0), .inr (0, 1, .negSucc 0), .inr (0, 1, .negSucc 0), .inr (0, 1, .negSucc 0)])], (4, .ofNat 1, .ofNat 4) :: (26, .ofNat 0, .ofNat 3) :: (27, .ofNat 0, .ofNat 3) :: zWB, zWF, 28), [], .ofNat 0, [])
def zNx58 : List zNd := [zn58_0, zn58_1, zn58_2, zn58_3, zn58_4, zn58_5, zn58_6, zn58_7]
def zEx58 : List zSm := [zSx55]
theorem ze58 : ∀ q ∈ zEx58, SmOk LL q := List.forall_mem_cons.mpr ⟨zO55, fun _ h => absurd h List.not_mem_nil⟩
def zYx58 : List (Nat × Nat) := [(125, 22)]
def zQx58 : List zSp := []
theorem zK58 : zcks LL TTl zMx58 zEx58 zYx58 zNx58 zXx58 zQx58 2 100000 zNx58 = true := by decide +kernel
theorem zO58 : SmOk LL zSx58 := sm_ok (D := 2) (fu := 100000) (SP := zQx58) (NP := zYx58) (ND := zNx58) LL_1 TTl_ok ze58 (zcks_ok zK58) (c := .ofNat 7) rfl List.mem_cons_self
/-- laysTurns3 -/
def zMx59 : List Nat := [94, 95]
def zTx59 : zS := ([(0, (2, 89, .ofNat 0))], [], [(90, zWr (.inr (0, 1, .ofNat 3)))], (4, .ofNat 1, .ofNat 4) :: zWB, zWF, 26)
def zXx59 : zS := ([], [], [(94, .inl [.inl (.ofNat 0, .ofNat 3), .inl (.ofNat 0, .ofNat 3), .inl (.ofNat 0, .ofNat 3), .inl (.negSucc 0, .negSucc 0), .inl (.negSucc 0, .negSucc 0), .inl (.negSucc 0, .negSucc 0)])], [], [], 2)
def zSx59 : zSm := (125, 3, zTx59, zXx59, zMx59)
def zn59_0 : zNd := (125, 0, zTx59, [], .ofNat 7, [])
def zn59_1 : zNd := (125, 22, ([(1, (0, 1, .ofNat 0)), (0, (2, 89, .ofNat 0))], [], [(90, zWr (.inr (0, 1, .ofNat 3)))], (4, .ofNat 1, .ofNat 4) :: zWB, zWF, 26), [], .ofNat 6, [])
def zn59_2 : zNd := (125, 22, ([(1, (0, 1, .ofNat 1)), (0, (2, 89, .ofNat 0)), (2, (0, 26, .ofNat 0)), (3, (0, 27, .ofNat 0))], [], [(90, zWr (.inr (0, 1, .ofNat 3))), (94, .inl [.inr (0, 26, .ofNat 0), .inl (.negSucc 0, .ofNat 3), .inl (.negSucc 0, .ofNat 3), .inl (.negSucc 0, .ofNat 3), .inl (.negSucc 0, .ofNat 3), .inl (.negSucc 0, .ofNat 3)])], (4, .ofNat 1, .ofNat 4) :: (26, .ofNat 0, .ofNat 3) :: (27, .ofNat 1, .ofNat 4) :: zWB, zWF, 28), [], .ofNat 5, [])
def zn59_3 : zNd := (125, 22, ([(1, (0, 1, .ofNat 2)), (0, (2, 89, .ofNat 0)), (2, (0, 26, .ofNat 0)), (3, (0, 27, .ofNat 0))], [], [(90, zWr (.inr (0, 1, .ofNat 3))), (94, .inl [.inr (0, 28, .ofNat 0), .inr (0, 26, .ofNat 0), .inl (.negSucc 0, .ofNat 3), .inl (.negSucc 0, .ofNat 3), .inl (.negSucc 0, .ofNat 3), .inl (.negSucc 0, .ofNat 3)])], (4, .ofNat 1, .ofNat 4) :: (26, .ofNat 0, .ofNat 3) :: (27, .ofNat 1, .ofNat 4) :: (28, .ofNat 0, .ofNat 3) :: zWB, zWF, 29), [], .ofNat 4, [])
def zn59_4 : zNd := (125, 22, ([(1, (0, 1, .ofNat 3)), (0, (2, 89, .ofNat 0)), (2, (0, 26, .ofNat 0)), (3, (0, 27, .ofNat 0))], [], [(90, zWr (.inr (0, 1, .ofNat 3))), (94, .inl [.inr (0, 28, .ofNat 0), .inr (0, 29, .ofNat 0), .inr (0, 26, .ofNat 0), .inl (.negSucc 0, .ofNat 3), .inl (.negSucc 0, .ofNat 3), .inl (.negSucc 0, .ofNat 3)])], (4, .ofNat 1, .ofNat 4) :: (26, .ofNat 0, .ofNat 3) :: (27, .ofNat 1, .ofNat 4) :: (28, .ofNat 0, .ofNat 3) :: (29, .ofNat 0, .ofNat 3) :: zWB, zWF, 30), [], .ofNat 3, [])
def zn59_5 : zNd := (125, 22, ([(1, (0, 1, .ofNat 4)), (2, (0, 1, .negSucc 0)), (3, (0, 1, .ofNat 0)), (0, (2, 89, .ofNat 0))], [], [(90, zWr (.inr (0, 1, .ofNat 3))), (94, .inl [.inr (0, 26, .ofNat 0), .inr (0, 27, .ofNat 0), .inr (0, 28, .ofNat 0), .inr (0, 1, .negSucc 0), .inl (.negSucc 0, .ofNat 3), .inl (.negSucc 0, .ofNat 3)])], (4, .ofNat 1, .ofNat 4) :: (26, .ofNat 0, .ofNat 3) :: (27, .ofNat 0, .ofNat 3) :: (28, .ofNat 0, .ofNat 3) :: zWB, zWF, 29), [], .ofNat 2, [])
def zn59_6 : zNd := (125, 22, ([(1, (0, 1, .ofNat 5)), (2, (0, 1, .negSucc 0)), (3, (0, 1, .ofNat 0)), (0, (2, 89, .ofNat 0))], [], [(90, zWr (.inr (0, 1, .ofNat 3))), (94, .inl [.inr (0, 26, .ofNat 0), .inr (0, 27, .ofNat 0), .inr (0, 28, .ofNat 0), .inr (0, 1, .negSucc 0), .inr (0, 1, .negSucc 0), .inl (.negSucc 0, .ofNat 3)])], (4, .ofNat 1, .ofNat 4) :: (26, .ofNat 0, .ofNat 3) :: (27, .ofNat 0, .ofNat 3) :: (28, .ofNat 0, .ofNat 3) :: zWB, zWF, 29), [], .ofNat 1, [])
def zn59_7 : zNd := (125, 22, ([(1, (0, 1, .ofNat 6)), (2, (0, 1, .negSucc 0)), (3, (0, 1, .ofNat 0)), (0, (2, 89, .ofNat 0))], [], [(90, zWr (.inr (0, 1, .ofNat 3))), (94, .inl [.inr (0, 26, .ofNat 0), .inr (0, 27, .ofNat 0), .inr (0, 28, .ofNat 0), .inr (0, 1, .negSucc 0), .inr (0, 1, .negSucc 0), .inr (0, 1, .negSucc 0)])], (4, .ofNat 1, .ofNat 4) :: (26, .ofNat 0, .ofNat 3) :: (27, .ofNat 0, .ofNat 3) :: (28, .ofNat 0, .ofNat 3) :: zWB, zWF, 29), [], .ofNat 0, [])
def zNx59 : List zNd := [zn59_0, zn59_1, zn59_2, zn59_3, zn59_4, zn59_5, zn59_6, zn59_7]
def zEx59 : List zSm := [zSx55]
theorem ze59 : ∀ q ∈ zEx59, SmOk LL q := List.forall_mem_cons.mpr ⟨zO55, fun _ h => absurd h List.not_mem_nil⟩
def zYx59 : List (Nat × Nat) := [(125, 22)]
def zQx59 : List zSp := []
theorem zK59_0 : zcks LL TTl zMx59 zEx59 zYx59 zNx59 zXx59 zQx59 2 100000 [zn59_0, zn59_1, zn59_2] = true := by decide +kernel
theorem zK59_1 : zcks LL TTl zMx59 zEx59 zYx59 zNx59 zXx59 zQx59 2 100000 [zn59_3, zn59_4, zn59_5, zn59_6, zn59_7] = true := by decide +kernel
theorem zk59 : ∀ nd ∈ zNx59, zck LL TTl zMx59 zEx59 zYx59 zNx59 zXx59 zQx59 2 100000 nd = true := zck2 (zcks_ok zK59_0) (zcks_ok zK59_1)
theorem zO59 : SmOk LL zSx59 := sm_ok (D := 2) (fu := 100000) (SP := zQx59) (NP := zYx59) (ND := zNx59) LL_1 TTl_ok ze59 zk59 (c := .ofNat 7) rfl List.mem_cons_self
/-- laysTurns4 -/
def zMx60 : List Nat := [94, 95]
def zTx60 : zS := ([(0, (2, 89, .ofNat 0))], [], [(90, zWr (.inr (0, 1, .ofNat 4)))], (4, .ofNat 1, .ofNat 4) :: zWB, zWF, 26)
def zXx60 : zS := ([], [], [(94, .inl [.inl (.ofNat 0, .ofNat 3), .inl (.ofNat 0, .ofNat 3), .inl (.ofNat 0, .ofNat 3), .inl (.ofNat 0, .ofNat 3), .inl (.negSucc 0, .negSucc 0), .inl (.negSucc 0, .negSucc 0)])], [], [], 2)
def zSx60 : zSm := (125, 3, zTx60, zXx60, zMx60)
def zn60_0 : zNd := (125, 0, zTx60, [], .ofNat 7, [])
def zn60_1 : zNd := (125, 22, ([(1, (0, 1, .ofNat 0)), (0, (2, 89, .ofNat 0))], [], [(90, zWr (.inr (0, 1, .ofNat 4)))], (4, .ofNat 1, .ofNat 4) :: zWB, zWF, 26), [], .ofNat 6, [])
def zn60_2 : zNd := (125, 22, ([(1, (0, 1, .ofNat 1)), (0, (2, 89, .ofNat 0)), (2, (0, 26, .ofNat 0)), (3, (0, 27, .ofNat 0))], [], [(90, zWr (.inr (0, 1, .ofNat 4))), (94, .inl [.inr (0, 26, .ofNat 0), .inl (.negSucc 0, .ofNat 3), .inl (.negSucc 0, .ofNat 3), .inl (.negSucc 0, .ofNat 3), .inl (.negSucc 0, .ofNat 3), .inl (.negSucc 0, .ofNat 3)])], (4, .ofNat 1, .ofNat 4) :: (26, .ofNat 0, .ofNat 3) :: (27, .ofNat 1, .ofNat 4) :: zWB, zWF, 28), [], .ofNat 5, [])
def zn60_3 : zNd := (125, 22, ([(1, (0, 1, .ofNat 2)), (0, (2, 89, .ofNat 0)), (2, (0, 26, .ofNat 0)), (3, (0, 27, .ofNat 0))], [], [(90, zWr (.inr (0, 1, .ofNat 4))), (94, .inl [.inr (0, 28, .ofNat 0), .inr (0, 26, .ofNat 0), .inl (.negSucc 0, .ofNat 3), .inl (.negSucc 0, .ofNat 3), .inl (.negSucc 0, .ofNat 3), .inl (.negSucc 0, .ofNat 3)])], (4, .ofNat 1, .ofNat 4) :: (26, .ofNat 0, .ofNat 3) :: (27, .ofNat 1, .ofNat 4) :: (28, .ofNat 0, .ofNat 3) :: zWB, zWF, 29), [], .ofNat 4, [])
def zn60_4 : zNd := (125, 22, ([(1, (0, 1, .ofNat 3)), (0, (2, 89, .ofNat 0)), (2, (0, 26, .ofNat 0)), (3, (0, 27, .ofNat 0))], [], [(90, zWr (.inr (0, 1, .ofNat 4))), (94, .inl [.inr (0, 28, .ofNat 0), .inr (0, 29, .ofNat 0), .inr (0, 26, .ofNat 0), .inl (.negSucc 0, .ofNat 3), .inl (.negSucc 0, .ofNat 3), .inl (.negSucc 0, .ofNat 3)])], (4, .ofNat 1, .ofNat 4) :: (26, .ofNat 0, .ofNat 3) :: (27, .ofNat 1, .ofNat 4) :: (28, .ofNat 0, .ofNat 3) :: (29, .ofNat 0, .ofNat 3) :: zWB, zWF, 30), [], .ofNat 3, [])
def zn60_5 : zNd := (125, 22, ([(1, (0, 1, .ofNat 4)), (0, (2, 89, .ofNat 0)), (2, (0, 26, .ofNat 0)), (3, (0, 27, .ofNat 0))], [], [(90, zWr (.inr (0, 1, .ofNat 4))), (94, .inl [.inr (0, 28, .ofNat 0), .inr (0, 29, .ofNat 0), .inr (0, 30, .ofNat 0), .inr (0, 26, .ofNat 0), .inl (.negSucc 0, .ofNat 3), .inl (.negSucc 0, .ofNat 3)])], (4, .ofNat 1, .ofNat 4) :: (26, .ofNat 0, .ofNat 3) :: (27, .ofNat 1, .ofNat 4) :: (28, .ofNat 0, .ofNat 3) :: (29, .ofNat 0, .ofNat 3) :: (30, .ofNat 0, .ofNat 3) :: zWB, zWF, 31), [], .ofNat 2, [])
def zn60_6 : zNd := (125, 22, ([(1, (0, 1, .ofNat 5)), (2, (0, 1, .negSucc 0)), (3, (0, 1, .ofNat 0)), (0, (2, 89, .ofNat 0))], [], [(90, zWr (.inr (0, 1, .ofNat 4))), (94, .inl [.inr (0, 26, .ofNat 0), .inr (0, 27, .ofNat 0), .inr (0, 28, .ofNat 0), .inr (0, 29, .ofNat 0), .inr (0, 1, .negSucc 0), .inl (.negSucc 0, .ofNat 3)])], (4, .ofNat 1, .ofNat 4) :: (26, .ofNat 0, .ofNat 3) :: (27, .ofNat 0, .ofNat 3) :: (28, .ofNat 0, .ofNat 3) :: (29, .ofNat 0, .ofNat 3) :: zWB, zWF, 30), [], .ofNat 1, [])
def zn60_7 : zNd := (125, 22, ([(1, (0, 1, .ofNat 6)), (2, (0, 1, .negSucc 0)), (3, (0, 1, .ofNat 0)), (0, (2, 89, .ofNat 0))], [], [(90, zWr (.inr (0, 1, .ofNat 4))), (94, .inl [.inr (0, 26, .ofNat 0), .inr (0, 27, .ofNat 0), .inr (0, 28, .ofNat 0), .inr (0, 29, .ofNat 0), .inr (0, 1, .negSucc 0), .inr (0, 1, .negSucc 0)])], (4, .ofNat 1, .ofNat 4) :: (26, .ofNat 0, .ofNat 3) :: (27, .ofNat 0, .ofNat 3) :: (28, .ofNat 0, .ofNat 3) :: (29, .ofNat 0, .ofNat 3) :: zWB, zWF, 30), [], .ofNat 0, [])
def zNx60 : List zNd := [zn60_0, zn60_1, zn60_2, zn60_3, zn60_4, zn60_5, zn60_6, zn60_7]
def zEx60 : List zSm := [zSx55]
theorem ze60 : ∀ q ∈ zEx60, SmOk LL q := List.forall_mem_cons.mpr ⟨zO55, fun _ h => absurd h List.not_mem_nil⟩
def zYx60 : List (Nat × Nat) := [(125, 22)]
def zQx60 : List zSp := []
theorem zK60_0 : zcks LL TTl zMx60 zEx60 zYx60 zNx60 zXx60 zQx60 2 100000 [zn60_0, zn60_1, zn60_2] = true := by decide +kernel
theorem zK60_1 : zcks LL TTl zMx60 zEx60 zYx60 zNx60 zXx60 zQx60 2 100000 [zn60_3, zn60_4, zn60_5, zn60_6, zn60_7] = true := by decide +kernel
theorem zk60 : ∀ nd ∈ zNx60, zck LL TTl zMx60 zEx60 zYx60 zNx60 zXx60 zQx60 2 100000 nd = true := zck2 (zcks_ok zK60_0) (zcks_ok zK60_1)
theorem zO60 : SmOk LL zSx60 := sm_ok (D := 2) (fu := 100000) (SP := zQx60) (NP := zYx60) (ND := zNx60) LL_1 TTl_ok ze60 zk60 (c := .ofNat 7) rfl List.mem_cons_self
/-- laysTurns5 -/
def zMx61 : List Nat := [94, 95]
def zTx61 : zS := ([(0, (2, 89, .ofNat 0))], [], [(90, zWr (.inr (0, 1, .ofNat 5)))], (4, .ofNat 1, .ofNat 4) :: zWB, zWF, 26)
def zXx61 : zS := ([], [], [(94, .inl [.inl (.ofNat 0, .ofNat 3), .inl (.ofNat 0, .ofNat 3), .inl (.ofNat 0, .ofNat 3), .inl (.ofNat 0, .ofNat 3), .inl (.ofNat 0, .ofNat 3), .inl (.negSucc 0, .negSucc 0)])], [], [], 2)
def zSx61 : zSm := (125, 3, zTx61, zXx61, zMx61)
def zn61_0 : zNd := (125, 0, zTx61, [], .ofNat 7, [])
def zn61_1 : zNd := (125, 22, ([(1, (0, 1, .ofNat 0)), (0, (2, 89, .ofNat 0))], [], [(90, zWr (.inr (0, 1, .ofNat 5)))], (4, .ofNat 1, .ofNat 4) :: zWB, zWF, 26), [], .ofNat 6, [])
def zn61_2 : zNd := (125, 22, ([(1, (0, 1, .ofNat 1)), (0, (2, 89, .ofNat 0)), (2, (0, 26, .ofNat 0)), (3, (0, 27, .ofNat 0))], [], [(90, zWr (.inr (0, 1, .ofNat 5))), (94, .inl [.inr (0, 26, .ofNat 0), .inl (.negSucc 0, .ofNat 3), .inl (.negSucc 0, .ofNat 3), .inl (.negSucc 0, .ofNat 3), .inl (.negSucc 0, .ofNat 3), .inl (.negSucc 0, .ofNat 3)])], (4, .ofNat 1, .ofNat 4) :: (26, .ofNat 0, .ofNat 3) :: (27, .ofNat 1, .ofNat 4) :: zWB, zWF, 28), [], .ofNat 5, [])
def zn61_3 : zNd := (125, 22, ([(1, (0, 1, .ofNat 2)), (0, (2, 89, .ofNat 0)), (2, (0, 26, .ofNat 0)), (3, (0, 27, .ofNat 0))], [], [(90, zWr (.inr (0, 1, .ofNat 5))), (94, .inl [.inr (0, 28, .ofNat 0), .inr (0, 26, .ofNat 0), .inl (.negSucc 0, .ofNat 3), .inl (.negSucc 0, .ofNat 3), .inl (.negSucc 0, .ofNat 3), .inl (.negSucc 0, .ofNat 3)])], (4, .ofNat 1, .ofNat 4) :: (26, .ofNat 0, .ofNat 3) :: (27, .ofNat 1, .ofNat 4) :: (28, .ofNat 0, .ofNat 3) :: zWB, zWF, 29), [], .ofNat 4, [])
def zn61_4 : zNd := (125, 22, ([(1, (0, 1, .ofNat 3)), (0, (2, 89, .ofNat 0)), (2, (0, 26, .ofNat 0)), (3, (0, 27, .ofNat 0))], [], [(90, zWr (.inr (0, 1, .ofNat 5))), (94, .inl [.inr (0, 28, .ofNat 0), .inr (0, 29, .ofNat 0), .inr (0, 26, .ofNat 0), .inl (.negSucc 0, .ofNat 3), .inl (.negSucc 0, .ofNat 3), .inl (.negSucc 0, .ofNat 3)])], (4, .ofNat 1, .ofNat 4) :: (26, .ofNat 0, .ofNat 3) :: (27, .ofNat 1, .ofNat 4) :: (28, .ofNat 0, .ofNat 3) :: (29, .ofNat 0, .ofNat 3) :: zWB, zWF, 30), [], .ofNat 3, [])
def zn61_5 : zNd := (125, 22, ([(1, (0, 1, .ofNat 4)), (0, (2, 89, .ofNat 0)), (2, (0, 26, .ofNat 0)), (3, (0, 27, .ofNat 0))], [], [(90, zWr (.inr (0, 1, .ofNat 5))), (94, .inl [.inr (0, 28, .ofNat 0), .inr (0, 29, .ofNat 0), .inr (0, 30, .ofNat 0), .inr (0, 26, .ofNat 0), .inl (.negSucc 0, .ofNat 3), .inl (.negSucc 0, .ofNat 3)])], (4, .ofNat 1, .ofNat 4) :: (26, .ofNat 0, .ofNat 3) :: (27, .ofNat 1, .ofNat 4) :: (28, .ofNat 0, .ofNat 3) :: (29, .ofNat 0, .ofNat 3) :: (30, .ofNat 0, .ofNat 3) :: zWB, zWF, 31), [], .ofNat 2, [])
def zn61_6 : zNd := (125, 22, ([(1, (0, 1, .ofNat 5)), (0, (2, 89, .ofNat 0)), (2, (0, 26, .ofNat 0)), (3, (0, 27, .ofNat 0))], [], [(90, zWr (.inr (0, 1, .ofNat 5))), (94, .inl [.inr (0, 28, .ofNat 0), .inr (0, 29, .ofNat 0), .inr (0, 30, .ofNat 0), .inr (0, 31, .ofNat 0), .inr (0, 26, .ofNat 0), .inl (.negSucc 0, .ofNat 3)])], (4, .ofNat 1, .ofNat 4) :: (26, .ofNat 0, .ofNat 3) :: (27, .ofNat 1, .ofNat 4) :: (28, .ofNat 0, .ofNat 3) :: (29, .ofNat 0, .ofNat 3) :: (30, .ofNat 0, .ofNat 3) :: (31, .ofNat 0, .ofNat 3) :: zWB, zWF, 32), [], .ofNat 1, [])
def zn61_7 : zNd := (125, 22, ([(1, (0, 1, .ofNat 6)), (2, (0, 1, .negSucc 0)), (3, (0, 1, .ofNat 0)), (0, (2, 89, .ofNat 0))], [], [(90, zWr (.inr (0, 1, .ofNat 5))), (94, .inl [.inr (0, 26, .ofNat 0), .inr (0, 27, .ofNat 0), .inr (0, 28, .ofNat 0), .inr (0, 29, .ofNat 0), .inr (0, 30, .ofNat 0), .inr (0, 1, .negSucc 0)])], (4, .ofNat 1, .ofNat 4) :: (26, .ofNat 0, .ofNat 3) :: (27, .ofNat 0, .ofNat 3) :: (28, .ofNat 0, .ofNat 3) :: (29, .ofNat 0, .ofNat 3) :: (30, .ofNat 0, .ofNat 3) :: zWB, zWF, 31), [], .ofNat 0, [])
def zNx61 : List zNd := [zn61_0, zn61_1, zn61_2, zn61_3, zn61_4, zn61_5, zn61_6, zn61_7]
def zEx61 : List zSm := [zSx55]
theorem ze61 : ∀ q ∈ zEx61, SmOk LL q := List.forall_mem_cons.mpr ⟨zO55, fun _ h => absurd h List.not_mem_nil⟩
def zYx61 : List (Nat × Nat) := [(125, 22)]
def zQx61 : List zSp := []
theorem zK61_0 : zcks LL TTl zMx61 zEx61 zYx61 zNx61 zXx61 zQx61 2 100000 [zn61_0, zn61_1, zn61_2] = true := by decide +kernel
theorem zK61_1 : zcks LL TTl zMx61 zEx61 zYx61 zNx61 zXx61 zQx61 2 100000 [zn61_3, zn61_4] = true := by decide +kernel
theorem zK61_2 : zcks LL TTl zMx61 zEx61 zYx61 zNx61 zXx61 zQx61 2 100000 [zn61_5, zn61_6, zn61_7] = true := by decide +kernel
theorem zk61 : ∀ nd ∈ zNx61, zck LL TTl zMx61 zEx61 zYx61 zNx61 zXx61 zQx61 2 100000 nd = true := zck2 (zcks_ok zK61_0) (zck2 (zcks_ok zK61_1) (zcks_ok zK61_2))
theorem zO61 : SmOk LL zSx61 := sm_ok (D := 2) (fu := 100000) (SP := zQx61) (NP := zYx61) (ND := zNx61) LL_1 TTl_ok ze61 zk61 (c := .ofNat 7) rfl List.mem_cons_self
/-- laysTurns6 -/
def zMx62 : List Nat := [94, 95]
def zTx62 : zS := ([(0, (2, 89, .ofNat 0))], [], [(90, zWr (.inr (0, 1, .ofNat 6)))], (4, .ofNat 1, .ofNat 4) :: zWB, zWF, 26)
def zXx62 : zS := ([], [], [(94, .inl [.inl (.ofNat 0, .ofNat 3), .inl (.ofNat 0, .ofNat 3), .inl (.ofNat 0, .ofNat 3), .inl (.ofNat 0, .ofNat 3), .inl (.ofNat 0, .ofNat 3), .inl (.ofNat 0, .ofNat 3)])], [], [], 2)
def zSx62 : zSm := (125, 3, zTx62, zXx62, zMx62)
def zn62_0 : zNd := (125, 0, zTx62, [], .ofNat 7, [])
def zn62_1 : zNd := (125, 22, ([(1, (0, 1, .ofNat 0)), (0, (2, 89, .ofNat 0))], [], [(90, zWr (.inr (0, 1, .ofNat 6)))], (4, .ofNat 1, .ofNat 4) :: zWB, zWF, 26), [], .ofNat 6, [])
def zn62_2 : zNd := (125, 22, ([(1, (0, 1, .ofNat 1)), (0, (2, 89, .ofNat 0)), (2, (0, 26, .ofNat 0)), (3, (0, 27, .ofNat 0))], [], [(90, zWr (.inr (0, 1, .ofNat 6))), (94, .inl [.inr (0, 26, .ofNat 0), .inl (.negSucc 0, .ofNat 3), .inl (.negSucc 0, .ofNat 3), .inl (.negSucc 0, .ofNat 3), .inl (.negSucc 0, .ofNat 3), .inl (.negSucc 0, .ofNat 3)])], (4, .ofNat 1, .ofNat 4) :: (26, .ofNat 0, .ofNat 3) :: (27, .ofNat 1, .ofNat 4) :: zWB, zWF, 28), [], .ofNat 5, [])
def zn62_3 : zNd := (125, 22, ([(1, (0, 1, .ofNat 2)), (0, (2, 89, .ofNat 0)), (2, (0, 26, .ofNat 0)), (3, (0, 27, .ofNat 0))], [], [(90, zWr (.inr (0, 1, .ofNat 6))), (94, .inl [.inr (0, 28, .ofNat 0), .inr (0, 26, .ofNat 0), .inl (.negSucc 0, .ofNat 3), .inl (.negSucc 0, .ofNat 3), .inl (.negSucc 0, .ofNat 3), .inl (.negSucc 0, .ofNat 3)])], (4, .ofNat 1, .ofNat 4) :: (26, .ofNat 0, .ofNat 3) :: (27, .ofNat 1, .ofNat 4) :: (28, .ofNat 0, .ofNat 3) :: zWB, zWF, 29), [], .ofNat 4, [])
def zn62_4 : zNd := (125, 22, ([(1, (0, 1, .ofNat 3)), (0, (2, 89, .ofNat 0)), (2, (0, 26, .ofNat 0)), (3, (0, 27, .ofNat 0))], [], [(90, zWr (.inr (0, 1, .ofNat 6))), (94, .inl [.inr (0, 28, .ofNat 0), .inr (0, 29, .ofNat 0), .inr (0, 26, .ofNat 0), .inl (.negSucc 0, .ofNat 3), .inl (.negSucc 0, .ofNat 3), .inl (.negSucc 0, .ofNat 3)])], (4, .ofNat 1, .ofNat 4) :: (26, .ofNat 0, .ofNat 3) :: (27, .ofNat 1, .ofNat 4) :: (28, .ofNat 0, .ofNat 3) :: (29, .ofNat 0, .ofNat 3) :: zWB, zWF, 30), [], .ofNat 3, [])
def zn62_5 : zNd := (125, 22, ([(1, (0, 1, .ofNat 4)), (0, (2, 89, .ofNat 0)), (2, (0, 26, .ofNat 0)), (3, (0, 27, .ofNat 0))], [], [(90, zWr (.inr (0, 1, .ofNat 6))), (94, .inl [.inr (0, 28, .ofNat 0), .inr (0, 29, .ofNat 0), .inr (0, 30, .ofNat 0), .inr (0, 26, .ofNat 0), .inl (.negSucc 0, .ofNat 3), .inl (.negSucc 0, .ofNat 3)])], (4, .ofNat 1, .ofNat 4) :: (26, .ofNat 0, .ofNat 3) :: (27, .ofNat 1, .ofNat 4) :: (28, .ofNat 0, .ofNat 3) :: (29, .ofNat 0, .ofNat 3) :: (30, .ofNat 0, .ofNat 3) :: zWB, zWF, 31), [], .ofNat 2, [])
def zn62_6 : zNd := (125, 22, ([(1, (0, 1, .ofNat 5)), (0, (2, 89, .ofNat 0)), (2, (0, 26, .ofNat 0)), (3, (0, 27, .ofNat 0))], [], [(90, zWr (.inr (0, 1, .ofNat 6))), (94, .inl [.inr (0, 28, .ofNat 0), .inr (0, 29, .ofNat 0), .inr (0, 30, .ofNat 0), .inr (0, 31, .ofNat 0), .inr (0, 26, .ofNat 0), .inl (.negSucc 0, .ofNat 3)])], (4, .ofNat 1, .ofNat 4) :: (26, .ofNat 0, .ofNat 3) :: (27, .ofNat 1, .ofNat 4) :: (28, .ofNat 0, .ofNat 3) :: (29, .ofNat 0, .ofNat 3) :: (30, .ofNat 0, .ofNat 3) :: (31, .ofNat 0, .ofNat 3) :: zWB, zWF, 32), [], .ofNat 1, [])
def zn62_7 : zNd := (125, 22, ([(1, (0, 1, .ofNat 6)), (0, (2, 89, .ofNat 0)), (2, (0, 26, .ofNat 0)), (3, (0, 27, .ofNat 0))], [], [(90, zWr (.inr (0, 1, .ofNat 6))), (94, .inl [.inr (0, 28, .ofNat 0), .inr (0, 29, .ofNat 0), .inr (0, 30, .ofNat 0), .inr (0, 31, .ofNat 0), .inr (0, 32, .ofNat 0), .inr (0, 26, .ofNat 0)])], (4, .ofNat 1, .ofNat 4) :: (26, .ofNat 0, .ofNat 3) :: (27, .ofNat 1, .ofNat 4) :: (28, .ofNat 0, .ofNat 3) :: (29, .ofNat 0, .ofNat 3) :: (30, .ofNat 0, .ofNat 3) :: (31, .ofNat 0, .ofNat 3) :: (32, .ofNat 0, .ofNat 3) :: zWB, zWF, 33), [], .ofNat 0, [])
def zNx62 : List zNd := [zn62_0, zn62_1, zn62_2, zn62_3, zn62_4, zn62_5, zn62_6, zn62_7]
def zEx62 : List zSm := [zSx55]
theorem ze62 : ∀ q ∈ zEx62, SmOk LL q := List.forall_mem_cons.mpr ⟨zO55, fun _ h => absurd h List.not_mem_nil⟩
def zYx62 : List (Nat × Nat) := [(125, 22)]
def zQx62 : List zSp := []
theorem zK62_0 : zcks LL TTl zMx62 zEx62 zYx62 zNx62 zXx62 zQx62 2 100000 [zn62_0, zn62_1, zn62_2] = true := by decide +kernel
theorem zK62_1 : zcks LL TTl zMx62 zEx62 zYx62 zNx62 zXx62 zQx62 2 100000 [zn62_3, zn62_4] = true := by decide +kernel
theorem zK62_2 : zcks LL TTl zMx62 zEx62 zYx62 zNx62 zXx62 zQx62 2 100000 [zn62_5, zn62_6, zn62_7] = true := by decide +kernel
theorem zk62 : ∀ nd ∈ zNx62, zck LL TTl zMx62 zEx62 zYx62 zNx62 zXx62 zQx62 2 100000 nd = true := zck2 (zcks_ok zK62_0) (zck2 (zcks_ok zK62_1) (zcks_ok zK62_2))
theorem zO62 : SmOk LL zSx62 := sm_ok (D := 2) (fu := 100000) (SP := zQx62) (NP := zYx62) (ND := zNx62) LL_1 TTl_ok ze62 zk62 (c := .ofNat 7) rfl List.mem_cons_self
/-- laysTurnsN -/
def zMx63 : List Nat := [94, 95]
def zTx63 : zS := ([(0, (2, 89, .ofNat 0))], [], [(90, zWr (.inr (0, 26, .ofNat 0)))], (4, .ofNat 0, .ofNat 0) :: (26, .ofNat 0, .ofNat 6) :: zWB, zWF, 27)
def zXx63 : zS := ([], [], [(94, .inl [.inl (.negSucc 0, .negSucc 0), .inl (.negSucc 0, .negSucc 0), .inl (.negSucc 0, .negSucc 0), .inl (.negSucc 0, .negSucc 0), .inl (.negSucc 0, .negSucc 0), .inl (.negSucc 0, .negSucc 0)])], [], [], 2)
def zSx63 : zSm := (125, 1, zTx63, zXx63, zMx63)
def zn63_0 : zNd := (125, 0, zTx63, [], .ofNat 7, [])
def zn63_1 : zNd := (125, 22, ([(1, (0, 1, .ofNat 0)), (0, (2, 89, .ofNat 0))], [], [(90, zWr (.inr (0, 26, .ofNat 0)))], (4, .ofNat 0, .ofNat 0) :: (26, .ofNat 0, .ofNat 6) :: zWB, zWF, 27), [], .ofNat 6, [])
def zn63_2 : zNd := (125, 22, ([(1, (0, 1, .ofNat 1)), (2, (0, 1, .negSucc 0)), (3, (0, 1, .ofNat 0)), (0, (2, 89, .ofNat 0))], [], [(90, zWr (.inr (0, 26, .ofNat 0))), (94, .inl [.inr (0, 1, .negSucc 0), .inl (.negSucc 0, .ofNat 3), .inl (.negSucc 0, .ofNat 3), .inl (.negSucc 0, .ofNat 3), .inl (.negSucc 0, .ofNat 3), .inl (.negSucc 0, .ofNat 3)])], (4, .ofNat 0, .ofNat 0) :: (26, .ofNat 0, .ofNat 6) :: zWB, zWF, 27), [], .ofNat 5, [])
def zn63_3 : zNd := (125, 22, ([(1, (0, 1, .ofNat 2)), (2, (0, 1, .negSucc 0)), (3, (0, 1, .ofNat 0)), (0, (2, 89, .ofNat 0))], [], [(90, zWr (.inr (0, 26, .ofNat 0))), (94, .inl [.inr (0, 1, .negSucc 0), .inr (0, 1, .negSucc 0), .inl (.negSucc 0, .ofNat 3), .inl (.negSucc 0, .ofNat 3), .inl (.negSucc 0, .ofNat 3), .inl (.negSucc 0, .ofNat 3)])], (4, .ofNat 0, .ofNat 0) :: (26, .ofNat 0, .ofNat 6) :: zWB, zWF, 27), [], .ofNat 4, [])
def zn63_4 : zNd := (125, 22, ([(1, (0, 1, .ofNat 3)), (2, (0, 1, .negSucc 0)), (3, (0, 1, .ofNat 0)), (0, (2, 89, .ofNat 0))], [], [(90, zWr (.inr (0, 26, .ofNat 0))), (94, .inl [.inr (0, 1, .negSucc 0), .inr (0, 1, .negSucc 0), .inr (0, 1, .negSucc 0), .inl (.negSucc 0, .ofNat 3), .inl (.negSucc 0, .ofNat 3), .inl (.negSucc 0, .ofNat 3)])], (4, .ofNat 0, .ofNat 0) :: (26, .ofNat 0, .ofNat 6) :: zWB, zWF, 27), [], .ofNat 3, [])
def zn63_5 : zNd := (125, 22, ([(1, (0, 1, .ofNat 4)), (2, (0, 1, .negSucc 0)), (3, (0, 1, .ofNat 0)), (0, (2, 89, .ofNat 0))], [], [(90, zWr (.inr (0, 26, .ofNat 0))), (94, .inl [.inr (0, 1, .negSucc 0), .inr (0, 1, .negSucc 0), .inr (0, 1, .negSucc 0), .inr (0, 1, .negSucc 0), .inl (.negSucc 0, .ofNat 3), .inl (.negSucc 0, .ofNat 3)])], (4, .ofNat 0, .ofNat 0) :: (26, .ofNat 0, .ofNat 6) :: zWB, zWF, 27), [], .ofNat 2, [])
def zn63_6 : zNd := (125, 22, ([(1, (0, 1, .ofNat 5)), (2, (0, 1, .negSucc 0)), (3, (0, 1, .ofNat 0)), (0, (2, 89, .ofNat 0))], [], [(90, zWr (.inr (0, 26, .ofNat 0))), (94, .inl [.inr (0, 1, .negSucc 0), .inr (0, 1, .negSucc 0), .inr (0, 1, .negSucc 0), .inr (0, 1, .negSucc 0), .inr (0, 1, .negSucc 0), .inl (.negSucc 0, .ofNat 3)])], (4, .ofNat 0, .ofNat 0) :: (26, .ofNat 0, .ofNat 6) :: zWB, zWF, 27), [], .ofNat 1, [])
def zn63_7 : zNd := (125, 22, ([(1, (0, 1, .ofNat 6)), (2, (0, 1, .negSucc 0)), (3, (0, 1, .ofNat 0)), (0, (2, 89, .ofNat 0))], [], [(90, zWr (.inr (0, 26, .ofNat 0))), (94, .inl [.inr (0, 1, .negSucc 0), .inr (0, 1, .negSucc 0), .inr (0, 1, .negSucc 0), .inr (0, 1, .negSucc 0), .inr (0, 1, .negSucc 0), .inr (0, 1, .negSucc 0)])], (4, .ofNat 0, .ofNat 0) :: (26, .ofNat 0, .ofNat 6) :: zWB, zWF, 27), [], .ofNat 0, [])
def zNx63 : List zNd := [zn63_0, zn63_1, zn63_2, zn63_3, zn63_4, zn63_5, zn63_6, zn63_7]
def zEx63 : List zSm := []
theorem ze63 : ∀ q ∈ zEx63, SmOk LL q := fun _ h => absurd h List.not_mem_nil
def zYx63 : List (Nat × Nat) := [(125, 22)]
def zQx63 : List zSp := []
theorem zK63 : zcks LL TTl zMx63 zEx63 zYx63 zNx63 zXx63 zQx63 0 100000 zNx63 = true := by decide +kernel
theorem zO63 : SmOk LL zSx63 := sm_ok (D := 0) (fu := 100000) (SP := zQx63) (NP := zYx63) (ND := zNx63) LL_1 TTl_ok ze63 (zcks_ok zK63) (c := .ofNat 7) rfl List.mem_cons_self
