/-! the checker on the methods, printed -/
/-- onesV -/
def zMx86 : List Nat := []
def zTx86 : zS := ([(0, (0, 2, .ofNat 0))], [], [], [(0, .ofNat 0, .ofNat 160), (2, .ofNat 0, .ofNat 15)], [], 3)
def zXx86 : zS := ([], [(0, 2, .ofNat 0)], [], [(2, .ofNat 0, .ofNat 4)], [], 3)
def zSx86 : zSm := (98, 1, zTx86, zXx86, zMx86)
def zn86_0 : zNd := (98, 0, zTx86, [], .ofNat 0, [])
def zNx86 : List zNd := [zn86_0]
def zEx86 : List zSm := []
theorem ze86 : ∀ q ∈ zEx86, SmOk LL q := fun _ h => absurd h List.not_mem_nil
def zYx86 : List (Nat × Nat) := []
def zQx86 : List zSp := [(98, 0, 0, 0, 0, none)]
theorem zK86 : zcks LL TTl zMx86 zEx86 zYx86 zNx86 zXx86 zQx86 0 100000 zNx86 = true := by decide +kernel
theorem zO86 : SmOk LL zSx86 := sm_ok (D := 0) (fu := 100000) (SP := zQx86) (NP := zYx86) (ND := zNx86) LL_1 TTl_ok ze86 (zcks_ok zK86) (c := .ofNat 0) rfl List.mem_cons_self
/-- laysWithin1 -/
def zMx87 : List Nat := [89, 94, 95, 97, 98, 99]
def zTx87 : zS := ([(1, (0, 1, .ofNat 1)), (0, (2, 89, .ofNat 0))], [], [(90, zWr (.inr (0, 1, .ofNat 1)))], (4, .ofNat 1, .ofNat 4) :: zWB, zWF, 26)
def zXx87 : zS := ([], [], [], [], [], 2)
def zSx87 : zSm := (151, 4, zTx87, zXx87, zMx87)
def zn87_0 : zNd := (151, 0, zTx87, [], .ofNat 2244, [])
def zn87_1 : zNd := (151, 28, ([(1, (0, 1, .ofNat 1)), (0, (2, 89, .ofNat 0)), (2, (0, 26, .ofNat 0)), (3, (0, 27, .ofNat 0))], [], [(90, zWr (.inr (0, 1, .ofNat 1)))], (4, .ofNat 1, .ofNat 4) :: (26, .ofNat 0, .ofNat 3) :: (27, .ofNat 0, .ofNat 16) :: zWB, zWF, 28), [], .ofNat 2242, [(.negSucc 131, 27)])
def zn87_2 : zNd := (151, 37, ([(1, (0, 1, .ofNat 1)), (0, (2, 89, .ofNat 0)), (2, (0, 26, .ofNat 0)), (3, (0, 27, .ofNat 0)), (4, (0, 28, .ofNat 0))], [], [(90, zWr (.inr (0, 1, .ofNat 1)))], (4, .ofNat 1, .ofNat 4) :: (26, .ofNat 0, .ofNat 3) :: (27, .ofNat 0, .ofNat 15) :: (28, .ofNat 0, .ofNat 64) :: zWB, zWF, 29), [], .ofNat 2240, [(.negSucc 131, 27), (.negSucc 1, 28)])
def zNx87 : List zNd := [zn87_0, zn87_1, zn87_2]
def zEx87 : List zSm := [zSx57, zSx67, zSx68, zSx69, zSx80]
theorem ze87 : ∀ q ∈ zEx87, SmOk LL q := List.forall_mem_cons.mpr ⟨zO57, List.forall_mem_cons.mpr ⟨zO67, List.forall_mem_cons.mpr ⟨zO68, List.forall_mem_cons.mpr ⟨zO69, List.forall_mem_cons.mpr ⟨zO80, fun _ h => absurd h List.not_mem_nil⟩⟩⟩⟩⟩
def zYx87 : List (Nat × Nat) := [(151, 28), (151, 37)]
def zQx87 : List zSp := []
theorem zK87 : zcks LL TTl zMx87 zEx87 zYx87 zNx87 zXx87 zQx87 3 100000 zNx87 = true := by decide +kernel
theorem zO87 : SmOk LL zSx87 := sm_ok (D := 3) (fu := 100000) (SP := zQx87) (NP := zYx87) (ND := zNx87) LL_1 TTl_ok ze87 (zcks_ok zK87) (c := .ofNat 2244) rfl List.mem_cons_self
/-- laysWithin2 -/
def zMx88 : List Nat := [89, 94, 95, 97, 98, 99]
def zTx88 : zS := ([(0, (2, 89, .ofNat 0)), (1, (0, 26, .ofNat 0))], [], [(90, zWr (.inr (0, 1, .ofNat 2)))], (4, .ofNat 1, .ofNat 4) :: (26, .ofNat 1, .ofNat 3) :: zWB, zWF, 27)
def zXx88 : zS := ([], [], [], [], [], 2)
def zSx88 : zSm := (151, 4, zTx88, zXx88, zMx88)
def zn88_0 : zNd := (151, 0, zTx88, [], .ofNat 2244, [])
def zn88_1 : zNd := (151, 28, ([(0, (2, 89, .ofNat 0)), (1, (0, 26, .ofNat 0)), (2, (0, 27, .ofNat 0)), (3, (0, 28, .ofNat 0))], [], [(90, zWr (.inr (0, 1, .ofNat 2)))], (4, .ofNat 1, .ofNat 4) :: (26, .ofNat 1, .ofNat 3) :: (27, .ofNat 0, .ofNat 3) :: (28, .ofNat 0, .ofNat 16) :: zWB, zWF, 29), [], .ofNat 2242, [(.negSucc 131, 28)])
def zn88_2 : zNd := (151, 37, ([(0, (2, 89, .ofNat 0)), (1, (0, 26, .ofNat 0)), (2, (0, 27, .ofNat 0)), (3, (0, 28, .ofNat 0)), (4, (0, 29, .ofNat 0))], [], [(90, zWr (.inr (0, 1, .ofNat 2)))], (4, .ofNat 1, .ofNat 4) :: (26, .ofNat 1, .ofNat 3) :: (27, .ofNat 0, .ofNat 3) :: (28, .ofNat 0, .ofNat 15) :: (29, .ofNat 0, .ofNat 64) :: zWB, zWF, 30), [], .ofNat 2240, [(.negSucc 131, 28), (.negSucc 1, 29)])
def zNx88 : List zNd := [zn88_0, zn88_1, zn88_2]
def zEx88 : List zSm := [zSx58, zSx67, zSx68, zSx69, zSx81]
theorem ze88 : ∀ q ∈ zEx88, SmOk LL q := List.forall_mem_cons.mpr ⟨zO58, List.forall_mem_cons.mpr ⟨zO67, List.forall_mem_cons.mpr ⟨zO68, List.forall_mem_cons.mpr ⟨zO69, List.forall_mem_cons.mpr ⟨zO81, fun _ h => absurd h List.not_mem_nil⟩⟩⟩⟩⟩
def zYx88 : List (Nat × Nat) := [(151, 28), (151, 37)]
def zQx88 : List zSp := []
theorem zK88 : zcks LL TTl zMx88 zEx88 zYx88 zNx88 zXx88 zQx88 3 100000 zNx88 = true := by decide +kernel
theorem zO88 : SmOk LL zSx88 := sm_ok (D := 3) (fu := 100000) (SP := zQx88) (NP := zYx88) (ND := zNx88) LL_1 TTl_ok ze88 (zcks_ok zK88) (c := .ofNat 2244) rfl List.mem_cons_self
/-- laysWithin3 -/
def zMx89 : List Nat := [89, 94, 95, 97, 98, 99]
def zTx89 : zS := ([(0, (2, 89, .ofNat 0)), (1, (0, 26, .ofNat 0))], [], [(90, zWr (.inr (0, 1, .ofNat 3)))], (4, .ofNat 1, .ofNat 4) :: (26, .ofNat 1, .ofNat 7) :: zWB, zWF, 27)
def zXx89 : zS := ([], [], [], [], [], 2)
def zSx89 : zSm := (151, 4, zTx89, zXx89, zMx89)
def zn89_0 : zNd := (151, 0, zTx89, [], .ofNat 2244, [])
def zn89_1 : zNd := (151, 28, ([(0, (2, 89, .ofNat 0)), (1, (0, 26, .ofNat 0)), (2, (0, 27, .ofNat 0)), (3, (0, 28, .ofNat 0))], [], [(90, zWr (.inr (0, 1, .ofNat 3)))], (4, .ofNat 1, .ofNat 4) :: (26, .ofNat 1, .ofNat 7) :: (27, .ofNat 0, .ofNat 3) :: (28, .ofNat 0, .ofNat 16) :: zWB, zWF, 29), [], .ofNat 2242, [(.negSucc 131, 28)])
def zn89_2 : zNd := (151, 37, ([(0, (2, 89, .ofNat 0)), (1, (0, 26, .ofNat 0)), (2, (0, 27, .ofNat 0)), (3, (0, 28, .ofNat 0)), (4, (0, 29, .ofNat 0))], [], [(90, zWr (.inr (0, 1, .ofNat 3)))], (4, .ofNat 1, .ofNat 4) :: (26, .ofNat 1, .ofNat 7) :: (27, .ofNat 0, .ofNat 3) :: (28, .ofNat 0, .ofNat 15) :: (29, .ofNat 0, .ofNat 64) :: zWB, zWF, 30), [], .ofNat 2240, [(.negSucc 131, 28), (.negSucc 1, 29)])
def zNx89 : List zNd := [zn89_0, zn89_1, zn89_2]
def zEx89 : List zSm := [zSx59, zSx67, zSx68, zSx69, zSx82]
theorem ze89 : ∀ q ∈ zEx89, SmOk LL q := List.forall_mem_cons.mpr ⟨zO59, List.forall_mem_cons.mpr ⟨zO67, List.forall_mem_cons.mpr ⟨zO68, List.forall_mem_cons.mpr ⟨zO69, List.forall_mem_cons.mpr ⟨zO82, fun _ h => absurd h List.not_mem_nil⟩⟩⟩⟩⟩
def zYx89 : List (Nat × Nat) := [(151, 28), (151, 37)]
def zQx89 : List zSp := []
theorem zK89 : zcks LL TTl zMx89 zEx89 zYx89 zNx89 zXx89 zQx89 3 100000 zNx89 = true := by decide +kernel
theorem zO89 : SmOk LL zSx89 := sm_ok (D := 3) (fu := 100000) (SP := zQx89) (NP := zYx89) (ND := zNx89) LL_1 TTl_ok ze89 (zcks_ok zK89) (c := .ofNat 2244) rfl List.mem_cons_self
/-- laysWithin4 -/
def zMx90 : List Nat := [89, 94, 95, 97, 98, 99]
def zTx90 : zS := ([(0, (2, 89, .ofNat 0)), (1, (0, 26, .ofNat 0))], [], [(90, zWr (.inr (0, 1, .ofNat 4)))], (4, .ofNat 1, .ofNat 4) :: (26, .ofNat 1, .ofNat 15) :: zWB, zWF, 27)
def zXx90 : zS := ([], [], [], [], [], 2)
def zSx90 : zSm := (151, 4, zTx90, zXx90, zMx90)
def zn90_0 : zNd := (151, 0, zTx90, [], .ofNat 2244, [])
def zn90_1 : zNd := (151, 28, ([(0, (2, 89, .ofNat 0)), (1, (0, 26, .ofNat 0)), (2, (0, 27, .ofNat 0)), (3, (0, 28, .ofNat 0))], [], [(90, zWr (.inr (0, 1, .ofNat 4)))], (4, .ofNat 1, .ofNat 4) :: (26, .ofNat 1, .ofNat 15) :: (27, .ofNat 0, .ofNat 3) :: (28, .ofNat 0, .ofNat 16) :: zWB, zWF, 29), [], .ofNat 2242, [(.negSucc 131, 28)])
def zn90_2 : zNd := (151, 37, ([(0, (2, 89, .ofNat 0)), (1, (0, 26, .ofNat 0)), (2, (0, 27, .ofNat 0)), (3, (0, 28, .ofNat 0)), (4, (0, 29, .ofNat 0))], [], [(90, zWr (.inr (0, 1, .ofNat 4)))], (4, .ofNat 1, .ofNat 4) :: (26, .ofNat 1, .ofNat 15) :: (27, .ofNat 0, .ofNat 3) :: (28, .ofNat 0, .ofNat 15) :: (29, .ofNat 0, .ofNat 64) :: zWB, zWF, 30), [], .ofNat 2240, [(.negSucc 131, 28), (.negSucc 1, 29)])
def zNx90 : List zNd := [zn90_0, zn90_1, zn90_2]
def zEx90 : List zSm := [zSx60, zSx67, zSx68, zSx69, zSx83]
theorem ze90 : ∀ q ∈ zEx90, SmOk LL q := List.forall_mem_cons.mpr ⟨zO60, List.forall_mem_cons.mpr ⟨zO67, List.forall_mem_cons.mpr ⟨zO68, List.forall_mem_cons.mpr ⟨zO69, List.forall_mem_cons.mpr ⟨zO83, fun _ h => absurd h List.not_mem_nil⟩⟩⟩⟩⟩
def zYx90 : List (Nat × Nat) := [(151, 28), (151, 37)]
def zQx90 : List zSp := []
theorem zK90 : zcks LL TTl zMx90 zEx90 zYx90 zNx90 zXx90 zQx90 3 100000 zNx90 = true := by decide +kernel
theorem zO90 : SmOk LL zSx90 := sm_ok (D := 3) (fu := 100000) (SP := zQx90) (NP := zYx90) (ND := zNx90) LL_1 TTl_ok ze90 (zcks_ok zK90) (c := .ofNat 2244) rfl List.mem_cons_self
/-- laysWithin5 -/
def zMx91 : List Nat := [89, 94, 95, 97, 98, 99]
def zTx91 : zS := ([(0, (2, 89, .ofNat 0)), (1, (0, 26, .ofNat 0))], [], [(90, zWr (.inr (0, 1, .ofNat 5)))], (4, .ofNat 1, .ofNat 4) :: (26, .ofNat 1, .ofNat 31) :: zWB, zWF, 27)
def zXx91 : zS := ([], [], [], [], [], 2)
def zSx91 : zSm := (151, 4, zTx91, zXx91, zMx91)
def zn91_0 : zNd := (151, 0, zTx91, [], .ofNat 2244, [])
def zn91_1 : zNd := (151, 28, ([(0, (2, 89, .ofNat 0)), (1, (0, 26, .ofNat 0)), (2, (0, 27, .ofNat 0)), (3, (0, 28, .ofNat 0))], [], [(90, zWr (.inr (0, 1, .ofNat 5)))], (4, .ofNat 1, .ofNat 4) :: (26, .ofNat 1, .ofNat 31) :: (27, .ofNat 0, .ofNat 3) :: (28, .ofNat 0, .ofNat 16) :: zWB, zWF, 29), [], .ofNat 2242, [(.negSucc 131, 28)])
def zn91_2 : zNd := (151, 37, ([(0, (2, 89, .ofNat 0)), (1, (0, 26, .ofNat 0)), (2, (0, 27, .ofNat 0)), (3, (0, 28, .ofNat 0)), (4, (0, 29, .ofNat 0))], [], [(90, zWr (.inr (0, 1, .ofNat 5)))], (4, .ofNat 1, .ofNat 4) :: (26, .ofNat 1, .ofNat 31) :: (27, .ofNat 0, .ofNat 3) :: (28, .ofNat 0, .ofNat 15) :: (29, .ofNat 0, .ofNat 64) :: zWB, zWF, 30), [], .ofNat 2240, [(.negSucc 131, 28), (.negSucc 1, 29)])
def zNx91 : List zNd := [zn91_0, zn91_1, zn91_2]
def zEx91 : List zSm := [zSx61, zSx67, zSx68, zSx69, zSx84]
theorem ze91 : ∀ q ∈ zEx91, SmOk LL q := List.forall_mem_cons.mpr ⟨zO61, List.forall_mem_cons.mpr ⟨zO67, List.forall_mem_cons.mpr ⟨zO68, List.forall_mem_cons.mpr ⟨zO69, List.forall_mem_cons.mpr ⟨zO84, fun _ h => absurd h List.not_mem_nil⟩⟩⟩⟩⟩
def zYx91 : List (Nat × Nat) := [(151, 28), (151, 37)]
def zQx91 : List zSp := []
theorem zK91 : zcks LL TTl zMx91 zEx91 zYx91 zNx91 zXx91 zQx91 3 100000 zNx91 = true := by decide +kernel
theorem zO91 : SmOk LL zSx91 := sm_ok (D := 3) (fu := 100000) (SP := zQx91) (NP := zYx91) (ND := zNx91) LL_1 TTl_ok ze91 (zcks_ok zK91) (c := .ofNat 2244) rfl List.mem_cons_self
/-- laysWithin6 -/
def zMx92 : List Nat := [89, 94, 95, 97, 98, 99]
def zTx92 : zS := ([(0, (2, 89, .ofNat 0)), (1, (0, 26, .ofNat 0))], [], [(90, zWr (.inr (0, 1, .ofNat 6)))], (4, .ofNat 1, .ofNat 4) :: (26, .ofNat 1, .ofNat 63) :: zWB, zWF, 27)
def zXx92 : zS := ([], [], [], [], [], 2)
def zSx92 : zSm := (151, 4, zTx92, zXx92, zMx92)
def zn92_0 : zNd := (151, 0, zTx92, [], .ofNat 2244, [])
def zn92_1 : zNd := (151, 28, ([(0, (2, 89, .ofNat 0)), (1, (0, 26, .ofNat 0)), (2, (0, 27, .ofNat 0)), (3, (0, 28, .ofNat 0))], [], [(90, zWr (.inr (0, 1, .ofNat 6)))], (4, .ofNat 1, .ofNat 4) :: (26, .ofNat 1, .ofNat 63) :: (27, .ofNat 0, .ofNat 3) :: (28, .ofNat 0, .ofNat 16) :: zWB, zWF, 29), [], .ofNat 2242, [(.negSucc 131, 28)])
def zn92_2 : zNd := (151, 37, ([(0, (2, 89, .ofNat 0)), (1, (0, 26, .ofNat 0)), (2, (0, 27, .ofNat 0)), (3, (0, 28, .ofNat 0)), (4, (0, 29, .ofNat 0))], [], [(90, zWr (.inr (0, 1, .ofNat 6)))], (4, .ofNat 1, .ofNat 4) :: (26, .ofNat 1, .ofNat 63) :: (27, .ofNat 0, .ofNat 3) :: (28, .ofNat 0, .ofNat 15) :: (29, .ofNat 0, .ofNat 64) :: zWB, zWF, 30), [], .ofNat 2240, [(.negSucc 131, 28), (.negSucc 1, 29)])
def zNx92 : List zNd := [zn92_0, zn92_1, zn92_2]
def zEx92 : List zSm := [zSx62, zSx67, zSx68, zSx69, zSx85]
theorem ze92 : ∀ q ∈ zEx92, SmOk LL q := List.forall_mem_cons.mpr ⟨zO62, List.forall_mem_cons.mpr ⟨zO67, List.forall_mem_cons.mpr ⟨zO68, List.forall_mem_cons.mpr ⟨zO69, List.forall_mem_cons.mpr ⟨zO85, fun _ h => absurd h List.not_mem_nil⟩⟩⟩⟩⟩
def zYx92 : List (Nat × Nat) := [(151, 28), (151, 37)]
def zQx92 : List zSp := []
theorem zK92 : zcks LL TTl zMx92 zEx92 zYx92 zNx92 zXx92 zQx92 3 100000 zNx92 = true := by decide +kernel
theorem zO92 : SmOk LL zSx92 := sm_ok (D := 3) (fu := 100000) (SP := zQx92) (NP := zYx92) (ND := zNx92) LL_1 TTl_ok ze92 (zcks_ok zK92) (c := .ofNat 2244) rfl List.mem_cons_self
/-- laysEnds0 -/
def zMx93 : List Nat := [89, 94, 95, 96, 97, 98, 99]
def zTx93 : zS := ([(1, (0, 1, .ofNat 0)), (0, (2, 89, .ofNat 0))], [], [(90, zWr (.inr (0, 1, .ofNat 0)))], (4, .ofNat 1, .ofNat 4) :: zWB, zWF, 26)
def zXx93 : zS := ([], [], [], [], [], 2)
def zSx93 : zSm := (152, 1, zTx93, zXx93, zMx93)
def zn93_0 : zNd := (152, 0, zTx93, [], .ofNat 131, [])
def zn93_1 : zNd := (152, 2, ([(1, (0, 1, .ofNat 0)), (0, (2, 89, .ofNat 0)), (2, (0, 26, .ofNat 0))], [], [(90, zWr (.inr (0, 1, .ofNat 0)))], (4, .ofNat 1, .ofNat 4) :: (26, .ofNat 0, .ofNat 64) :: zWB, zWF, 27), [], .ofNat 129, [(.negSucc 1, 26)])
def zn93_2 : zNd := (152, 23, ([(1, (0, 1, .ofNat 0)), (2, (0, 1, .ofNat 1)), (0, (2, 89, .ofNat 0))], [], [(90, zWr (.inr (0, 1, .ofNat 0)))], (4, .ofNat 1, .ofNat 4) :: zWB, zWF, 26), [], .ofNat 0, [])
def zNx93 : List zNd := [zn93_0, zn93_1, zn93_2]
def zEx93 : List zSm := []
theorem ze93 : ∀ q ∈ zEx93, SmOk LL q := fun _ h => absurd h List.not_mem_nil
def zYx93 : List (Nat × Nat) := [(152, 2), (152, 23)]
def zQx93 : List zSp := []
theorem zK93 : zcks LL TTl zMx93 zEx93 zYx93 zNx93 zXx93 zQx93 0 100000 zNx93 = true := by decide +kernel
theorem zO93 : SmOk LL zSx93 := sm_ok (D := 0) (fu := 100000) (SP := zQx93) (NP := zYx93) (ND := zNx93) LL_1 TTl_ok ze93 (zcks_ok zK93) (c := .ofNat 131) rfl List.mem_cons_self
/-- laysEnds1 -/
def zMx94 : List Nat := [89, 94, 95, 96, 97, 98, 99]
def zTx94 : zS := ([(0, (2, 89, .ofNat 0)), (1, (0, 26, .ofNat 0))], [], [(90, zWr (.inr (0, 1, .ofNat 1)))], (4, .ofNat 1, .ofNat 4) :: (26, .ofNat 0, .ofNat 1) :: zWB, zWF, 27)
def zXx94 : zS := ([], [], [], [], [], 2)
def zSx94 : zSm := (152, 5, zTx94, zXx94, zMx94)
def zn94_0 : zNd := (152, 0, zTx94, [], .ofNat 394, [])
def zn94_1 : zNd := (152, 2, ([(0, (2, 89, .ofNat 0)), (1, (0, 26, .ofNat 0)), (2, (0, 27, .ofNat 0))], [], [(90, zWr (.inr (0, 1, .ofNat 1)))], (4, .ofNat 1, .ofNat 4) :: (26, .ofNat 0, .ofNat 1) :: (27, .ofNat 0, .ofNat 64) :: zWB, zWF, 28), [], .ofNat 392, [(.negSucc 1, 27)])
def zn94_2 : zNd := (152, 23, ([(0, (2, 89, .ofNat 0)), (1, (0, 26, .ofNat 0)), (2, (0, 27, .ofNat 0))], [], [(90, zWr (.inr (0, 1, .ofNat 1)))], (4, .ofNat 1, .ofNat 4) :: (26, .ofNat 0, .ofNat 1) :: (27, .ofNat 1, .ofNat 2) :: zWB, zWF, 28), [], .ofNat 394, [(.negSucc 131, 27)])
def zn94_3 : zNd := (152, 43, ([(1, (0, 1, .ofNat 1)), (2, (0, 1, .ofNat 1)), (0, (2, 89, .ofNat 0)), (3, (0, 26, .ofNat 0))], [], [(90, zWr (.inr (0, 1, .ofNat 1)))], (4, .ofNat 1, .ofNat 4) :: (26, .ofNat 0, .ofNat 64) :: zWB, zWF, 27), [], .ofNat 260, [(.negSucc 1, 26)])
def zNx94 : List zNd := [zn94_0, zn94_1, zn94_2, zn94_3]
def zEx94 : List zSm := [zSx87]
theorem ze94 : ∀ q ∈ zEx94, SmOk LL q := List.forall_mem_cons.mpr ⟨zO87, fun _ h => absurd h List.not_mem_nil⟩
def zYx94 : List (Nat × Nat) := [(152, 2), (152, 23), (152, 43)]
def zQx94 : List zSp := []
theorem zK94 : zcks LL TTl zMx94 zEx94 zYx94 zNx94 zXx94 zQx94 4 100000 zNx94 = true := by decide +kernel
theorem zO94 : SmOk LL zSx94 := sm_ok (D := 4) (fu := 100000) (SP := zQx94) (NP := zYx94) (ND := zNx94) LL_1 TTl_ok ze94 (zcks_ok zK94) (c := .ofNat 394) rfl List.mem_cons_self
/-- laysEnds2 -/
def zMx95 : List Nat := [89, 94, 95, 96, 97, 98, 99]
def zTx95 : zS := ([(0, (2, 89, .ofNat 0)), (1, (0, 26, .ofNat 0))], [], [(90, zWr (.inr (0, 1, .ofNat 2)))], (4, .ofNat 1, .ofNat 4) :: (26, .ofNat 0, .ofNat 3) :: zWB, zWF, 27)
def zXx95 : zS := ([], [], [], [], [], 2)
def zSx95 : zSm := (152, 5, zTx95, zXx95, zMx95)
def zn95_0 : zNd := (152, 0, zTx95, [], .ofNat 658, [])
def zn95_1 : zNd := (152, 2, ([(0, (2, 89, .ofNat 0)), (1, (0, 26, .ofNat 0)), (2, (0, 27, .ofNat 0))], [], [(90, zWr (.inr (0, 1, .ofNat 2)))], (4, .ofNat 1, .ofNat 4) :: (26, .ofNat 0, .ofNat 3) :: (27, .ofNat 0, .ofNat 64) :: zWB, zWF, 28), [], .ofNat 656, [(.negSucc 1, 27)])
def zn95_2 : zNd := (152, 23, ([(0, (2, 89, .ofNat 0)), (1, (0, 26, .ofNat 0)), (2, (0, 27, .ofNat 0))], [], [(90, zWr (.inr (0, 1, .ofNat 2)))], (4, .ofNat 1, .ofNat 4) :: (26, .ofNat 0, .ofNat 3) :: (27, .ofNat 1, .ofNat 4) :: zWB, zWF, 28), [], .ofNat 658, [(.negSucc 131, 27)])
def zn95_3 : zNd := (152, 43, ([(0, (2, 89, .ofNat 0)), (1, (0, 26, .ofNat 0)), (2, (0, 27, .ofNat 0)), (3, (0, 28, .ofNat 0))], [], [(90, zWr (.inr (0, 1, .ofNat 2)))], (4, .ofNat 1, .ofNat 4) :: (26, .ofNat 1, .ofNat 3) :: (27, .ofNat 1, .ofNat 3) :: (28, .ofNat 0, .ofNat 64) :: zWB, zWF, 29), [], .ofNat 656, [(.negSucc 131, 27), (.negSucc 1, 28)])
def zNx95 : List zNd := [zn95_0, zn95_1, zn95_2, zn95_3]
def zEx95 : List zSm := [zSx88]
theorem ze95 : ∀ q ∈ zEx95, SmOk LL q := List.forall_mem_cons.mpr ⟨zO88, fun _ h => absurd h List.not_mem_nil⟩
def zYx95 : List (Nat × Nat) := [(152, 2), (152, 23), (152, 43)]
def zQx95 : List zSp := []
theorem zK95 : zcks LL TTl zMx95 zEx95 zYx95 zNx95 zXx95 zQx95 4 100000 zNx95 = true := by decide +kernel
theorem zO95 : SmOk LL zSx95 := sm_ok (D := 4) (fu := 100000) (SP := zQx95) (NP := zYx95) (ND := zNx95) LL_1 TTl_ok ze95 (zcks_ok zK95) (c := .ofNat 658) rfl List.mem_cons_self
/-- laysEnds3 -/
def zMx96 : List Nat := [89, 94, 95, 96, 97, 98, 99]
def zTx96 : zS := ([(0, (2, 89, .ofNat 0)), (1, (0, 26, .ofNat 0))], [], [(90, zWr (.inr (0, 1, .ofNat 3)))], (4, .ofNat 1, .ofNat 4) :: (26, .ofNat 0, .ofNat 7) :: zWB, zWF, 27)
def zXx96 : zS := ([], [], [], [], [], 2)
def zSx96 : zSm := (152, 5, zTx96, zXx96, zMx96)
def zn96_0 : zNd := (152, 0, zTx96, [], .ofNat 1450, [])
def zn96_1 : zNd := (152, 2, ([(0, (2, 89, .ofNat 0)), (1, (0, 26, .ofNat 0)), (2, (0, 27, .ofNat 0))], [], [(90, zWr (.inr (0, 1, .ofNat 3)))], (4, .ofNat 1, .ofNat 4) :: (26, .ofNat 0, .ofNat 7) :: (27, .ofNat 0, .ofNat 64) :: zWB, zWF, 28), [], .ofNat 1448, [(.negSucc 1, 27)])
def zn96_2 : zNd := (152, 23, ([(0, (2, 89, .ofNat 0)), (1, (0, 26, .ofNat 0)), (2, (0, 27, .ofNat 0))], [], [(90, zWr (.inr (0, 1, .ofNat 3)))], (4, .ofNat 1, .ofNat 4) :: (26, .ofNat 0, .ofNat 7) :: (27, .ofNat 1, .ofNat 10) :: zWB, zWF, 28), [], .ofNat 1450, [(.negSucc 131, 27)])
def zn96_3 : zNd := (152, 43, ([(0, (2, 89, .ofNat 0)), (1, (0, 26, .ofNat 0)), (2, (0, 27, .ofNat 0)), (3, (0, 28, .ofNat 0))], [], [(90, zWr (.inr (0, 1, .ofNat 3)))], (4, .ofNat 1, .ofNat 4) :: (26, .ofNat 1, .ofNat 7) :: (27, .ofNat 1, .ofNat 7) :: (28, .ofNat 0, .ofNat 64) :: zWB, zWF, 29), [], .ofNat 1448, [(.negSucc 131, 27), (.negSucc 1, 28)])
def zNx96 : List zNd := [zn96_0, zn96_1, zn96_2, zn96_3]
def zEx96 : List zSm := [zSx89]
theorem ze96 : ∀ q ∈ zEx96, SmOk LL q := List.forall_mem_cons.mpr ⟨zO89, fun _ h => absurd h List.not_mem_nil⟩
def zYx96 : List (Nat × Nat) := [(152, 2), (152, 23), (152, 43)]
def zQx96 : List zSp := []
theorem zK96 : zcks LL TTl zMx96 zEx96 zYx96 zNx96 zXx96 zQx96 4 100000 zNx96 = true := by decide +kernel
theorem zO96 : SmOk LL zSx96 := sm_ok (D := 4) (fu := 100000) (SP := zQx96) (NP := zYx96) (ND := zNx96) LL_1 TTl_ok ze96 (zcks_ok zK96) (c := .ofNat 1450) rfl List.mem_cons_self
/-- laysEnds4 -/
def zMx97 : List Nat := [89, 94, 95, 96, 97, 98, 99]
def zTx97 : zS := ([(0, (2, 89, .ofNat 0)), (1, (0, 26, .ofNat 0))], [], [(90, zWr (.inr (0, 1, .ofNat 4)))], (4, .ofNat 1, .ofNat 4) :: (26, .ofNat 0, .ofNat 15) :: zWB, zWF, 27)
def zXx97 : zS := ([], [], [], [], [], 2)
def zSx97 : zSm := (152, 5, zTx97, zXx97, zMx97)
def zn97_0 : zNd := (152, 0, zTx97, [], .ofNat 2242, [])
def zn97_1 : zNd := (152, 2, ([(0, (2, 89, .ofNat 0)), (1, (0, 26, .ofNat 0)), (2, (0, 27, .ofNat 0))], [], [(90, zWr (.inr (0, 1, .ofNat 4)))], (4, .ofNat 1, .ofNat 4) :: (26, .ofNat 0, .ofNat 15) :: (27, .ofNat 0, .ofNat 64) :: zWB, zWF, 28), [], .ofNat 2240, [(.negSucc 1, 27)])
def zn97_2 : zNd := (152, 23, ([(0, (2, 89, .ofNat 0)), (1, (0, 26, .ofNat 0)), (2, (0, 27, .ofNat 0))], [], [(90, zWr (.inr (0, 1, .ofNat 4)))], (4, .ofNat 1, .ofNat 4) :: (26, .ofNat 0, .ofNat 15) :: (27, .ofNat 1, .ofNat 16) :: zWB, zWF, 28), [], .ofNat 2242, [(.negSucc 131, 27)])
def zn97_3 : zNd := (152, 43, ([(0, (2, 89, .ofNat 0)), (1, (0, 26, .ofNat 0)), (2, (0, 27, .ofNat 0)), (3, (0, 28, .ofNat 0))], [], [(90, zWr (.inr (0, 1, .ofNat 4)))], (4, .ofNat 1, .ofNat 4) :: (26, .ofNat 1, .ofNat 15) :: (27, .ofNat 1, .ofNat 15) :: (28, .ofNat 0, .ofNat 64) :: zWB, zWF, 29), [], .ofNat 2240, [(.negSucc 131, 27), (.negSucc 1, 28)])
def zNx97 : List zNd := [zn97_0, zn97_1, zn97_2, zn97_3]
def zEx97 : List zSm := [zSx90]
theorem ze97 : ∀ q ∈ zEx97, SmOk LL q := List.forall_mem_cons.mpr ⟨zO90, fun _ h => absurd h List.not_mem_nil⟩
def zYx97 : List (Nat × Nat) := [(152, 2), (152, 23), (152, 43)]
def zQx97 : List zSp := []
theorem zK97 : zcks LL TTl zMx97 zEx97 zYx97 zNx97 zXx97 zQx97 4 100000 zNx97 = true := by decide +kernel
theorem zO97 : SmOk LL zSx97 := sm_ok (D := 4) (fu := 100000) (SP := zQx97) (NP := zYx97) (ND := zNx97) LL_1 TTl_ok ze97 (zcks_ok zK97) (c := .ofNat 2242) rfl List.mem_cons_self
/-- laysEnds5 -/
def zMx98 : List Nat := [89, 94, 95, 96, 97, 98, 99]
def zTx98 : zS := ([(0, (2, 89, .ofNat 0)), (1, (0, 26, .ofNat 0))], [], [(90, zWr (.inr (0, 1, .ofNat 5)))], (4, .ofNat 1, .ofNat 4) :: (26, .ofNat 0, .ofNat 31) :: zWB, zWF, 27)
def zXx98 : zS := ([], [], [], [], [], 2)
def zSx98 : zSm := (152, 5, zTx98, zXx98, zMx98)
def zn98_0 : zNd := (152, 0, zTx98, [], .ofNat 7258, [])
def zn98_1 : zNd := (152, 2, ([(0, (2, 89, .ofNat 0)), (1, (0, 26, .ofNat 0)), (2, (0, 27, .ofNat 0))], [], [(90, zWr (.inr (0, 1, .ofNat 5)))], (4, .ofNat 1, .ofNat 4) :: (26, .ofNat 0, .ofNat 31) :: (27, .ofNat 0, .ofNat 64) :: zWB, zWF, 28), [], .ofNat 7256, [(.negSucc 1, 27)])
def zn98_2 : zNd := (152, 23, ([(0, (2, 89, .ofNat 0)), (1, (0, 26, .ofNat 0)), (2, (0, 27, .ofNat 0))], [], [(90, zWr (.inr (0, 1, .ofNat 5)))], (4, .ofNat 1, .ofNat 4) :: (26, .ofNat 0, .ofNat 31) :: (27, .ofNat 1, .ofNat 54) :: zWB, zWF, 28), [], .ofNat 7258, [(.negSucc 131, 27)])
def zn98_3 : zNd := (152, 43, ([(0, (2, 89, .ofNat 0)), (1, (0, 26, .ofNat 0)), (2, (0, 27, .ofNat 0)), (3, (0, 28, .ofNat 0))], [], [(90, zWr (.inr (0, 1, .ofNat 5)))], (4, .ofNat 1, .ofNat 4) :: (26, .ofNat 1, .ofNat 31) :: (27, .ofNat 1, .ofNat 31) :: (28, .ofNat 0, .ofNat 64) :: zWB, zWF, 29), [], .ofNat 7256, [(.negSucc 131, 27), (.negSucc 1, 28)])
def zNx98 : List zNd := [zn98_0, zn98_1, zn98_2, zn98_3]
def zEx98 : List zSm := [zSx91]
theorem ze98 : ∀ q ∈ zEx98, SmOk LL q := List.forall_mem_cons.mpr ⟨zO91, fun _ h => absurd h List.not_mem_nil⟩
def zYx98 : List (Nat × Nat) := [(152, 2), (152, 23), (152, 43)]
def zQx98 : List zSp := []
theorem zK98 : zcks LL TTl zMx98 zEx98 zYx98 zNx98 zXx98 zQx98 4 100000 zNx98 = true := by decide +kernel
theorem zO98 : SmOk LL zSx98 := sm_ok (D := 4) (fu := 100000) (SP := zQx98) (NP := zYx98) (ND := zNx98) LL_1 TTl_ok ze98 (zcks_ok zK98) (c := .ofNat 7258) rfl List.mem_cons_self
/-- laysEnds6 -/
def zMx99 : List Nat := [89, 94, 95, 96, 97, 98, 99]
def zTx99 : zS := ([(0, (2, 89, .ofNat 0)), (1, (0, 26, .ofNat 0))], [], [(90, zWr (.inr (0, 1, .ofNat 6)))], (4, .ofNat 1, .ofNat 4) :: (26, .ofNat 0, .ofNat 63) :: zWB, zWF, 27)
def zXx99 : zS := ([], [], [], [], [], 2)
def zSx99 : zSm := (152, 5, zTx99, zXx99, zMx99)
def zn99_0 : zNd := (152, 0, zTx99, [], .ofNat 8578, [])
def zn99_1 : zNd := (152, 2, ([(0, (2, 89, .ofNat 0)), (1, (0, 26, .ofNat 0)), (2, (0, 27, .ofNat 0))], [], [(90, zWr (.inr (0, 1, .ofNat 6)))], (4, .ofNat 1, .ofNat 4) :: (26, .ofNat 0, .ofNat 63) :: (27, .ofNat 0, .ofNat 64) :: zWB, zWF, 28), [], .ofNat 8576, [(.negSucc 1, 27)])
def zn99_2 : zNd := (152, 23, ([(0, (2, 89, .ofNat 0)), (1, (0, 26, .ofNat 0)), (2, (0, 27, .ofNat 0))], [], [(90, zWr (.inr (0, 1, .ofNat 6)))], (4, .ofNat 1, .ofNat 4) :: (26, .ofNat 0, .ofNat 63) :: (27, .ofNat 1, .ofNat 64) :: zWB, zWF, 28), [], .ofNat 8578, [(.negSucc 131, 27)])
def zn99_3 : zNd := (152, 43, ([(0, (2, 89, .ofNat 0)), (1, (0, 26, .ofNat 0)), (2, (0, 27, .ofNat 0)), (3, (0, 28, .ofNat 0))], [], [(90, zWr (.inr (0, 1, .ofNat 6)))], (4, .ofNat 1, .ofNat 4) :: (26, .ofNat 1, .ofNat 63) :: (27, .ofNat 1, .ofNat 63) :: (28, .ofNat 0, .ofNat 64) :: zWB, zWF, 29), [], .ofNat 8576, [(.negSucc 131, 27), (.negSucc 1, 28)])
def zNx99 : List zNd := [zn99_0, zn99_1, zn99_2, zn99_3]
def zEx99 : List zSm := [zSx92]
theorem ze99 : ∀ q ∈ zEx99, SmOk LL q := List.forall_mem_cons.mpr ⟨zO92, fun _ h => absurd h List.not_mem_nil⟩
def zYx99 : List (Nat × Nat) := [(152, 2), (152, 23), (152, 43)]
def zQx99 : List zSp := []
theorem zK99 : zcks LL TTl zMx99 zEx99 zYx99 zNx99 zXx99 zQx99 4 100000 zNx99 = true := by decide +kernel
theorem zO99 : SmOk LL zSx99 := sm_ok (D := 4) (fu := 100000) (SP := zQx99) (NP := zYx99) (ND := zNx99) LL_1 TTl_ok ze99 (zcks_ok zK99) (c := .ofNat 8578) rfl List.mem_cons_self
/-- foreseenBy -/
def zMx100 : List Nat := [89, 94, 95, 96, 97, 98, 99]
def zTx100 : zS := ([(0, (2, 89, .ofNat 0)), (1, (0, 26, .ofNat 0)), (2, (0, 27, .ofNat 0))], [], [(90, zWr (.inr (0, 28, .ofNat 0)))], (26, .ofNat 0, .ofNat 3) :: (27, .ofNat 0, .ofNat 15) :: (28, .ofNat 0, .ofNat 6) :: zWB, zWF, 29)
def zXx100 : zS := ([], [(0, 2, .ofNat 0)], [], [(2, .negSucc 2147483647, .ofNat 2147483647)], [], 3)
def zSx100 : zSm := (154, 6, zTx100, zXx100, zMx100)
def zn100_0 : zNd := (154, 0, zTx100, [], .ofNat 0, [])
def zNx100 : List zNd := [zn100_0]
def zEx100 : List zSm := [zSx56, zSx57, zSx58, zSx59, zSx60, zSx61, zSx62, zSx63, zSx65, zSx72, zSx73, zSx74, zSx75, zSx76, zSx77, zSx78, zSx94, zSx95, zSx96, zSx97, zSx98, zSx99]
theorem ze100 : ∀ q ∈ zEx100, SmOk LL q := List.forall_mem_cons.mpr ⟨zO56, List.forall_mem_cons.mpr ⟨zO57, List.forall_mem_cons.mpr ⟨zO58, List.forall_mem_cons.mpr ⟨zO59, List.forall_mem_cons.mpr ⟨zO60, List.forall_mem_cons.mpr ⟨zO61, List.forall_mem_cons.mpr ⟨zO62, List.forall_mem_cons.mpr ⟨zO63, List.forall_mem_cons.mpr ⟨zO65, List.forall_mem_cons.mpr ⟨zO72, List.forall_mem_cons.mpr ⟨zO73, List.forall_mem_cons.mpr ⟨zO74, List.forall_mem_cons.mpr ⟨zO75, List.forall_mem_cons.mpr ⟨zO76, List.forall_mem_cons.mpr ⟨zO77, List.forall_mem_cons.mpr ⟨zO78, List.forall_mem_cons.mpr ⟨zO94, List.forall_mem_cons.mpr ⟨zO95, List.forall_mem_cons.mpr ⟨zO96, List.forall_mem_cons.mpr ⟨zO97, List.forall_mem_cons.mpr ⟨zO98, List.forall_mem_cons.mpr ⟨zO99, fun _ h => absurd h List.not_mem_nil⟩⟩⟩⟩⟩⟩⟩⟩⟩⟩⟩⟩⟩⟩⟩⟩⟩⟩⟩⟩⟩⟩
def zYx100 : List (Nat × Nat) := []
def zQx100 : List zSp := [(154, 0, 2, 90, 0, none), (154, 0, 2, 90, 1, some (.ofNat 0))]
theorem zK100 : zcks LL TTl zMx100 zEx100 zYx100 zNx100 zXx100 zQx100 5 100000 zNx100 = true := by decide +kernel
theorem zO100 : SmOk LL zSx100 := sm_ok (D := 5) (fu := 100000) (SP := zQx100) (NP := zYx100) (ND := zNx100) LL_1 TTl_ok ze100 (zcks_ok zK100) (c := .ofNat 0) rfl List.mem_cons_self
/-- reason -/
def zMx101 : List Nat := [91]
def zTx101 : zS := ([(0, (2, 89, .ofNat 0)), (1, (0, 26, .ofNat 0))], [], [(90, zWr (.inr (0, 27, .ofNat 0)))], (26, .negSucc 2147483647, .ofNat 2147483647) :: (27, .ofNat 0, .ofNat 6) :: zWB, zWF, 28)
def zXx101 : zS := ([], [(0, 2, .ofNat 0)], [], [(2, .negSucc 2147483647, .ofNat 2147483647)], [], 3)
def zSx101 : zSm := (121, 2, zTx101, zXx101, zMx101)
def zn101_0 : zNd := (121, 0, zTx101, [], .ofNat 0, [])
def zNx101 : List zNd := [zn101_0]
def zEx101 : List zSm := []
theorem ze101 : ∀ q ∈ zEx101, SmOk LL q := fun _ h => absurd h List.not_mem_nil
def zYx101 : List (Nat × Nat) := []
def zQx101 : List zSp := []
theorem zK101 : zcks LL TTl zMx101 zEx101 zYx101 zNx101 zXx101 zQx101 1 100000 zNx101 = true := by decide +kernel
theorem zO101 : SmOk LL zSx101 := sm_ok (D := 1) (fu := 100000) (SP := zQx101) (NP := zYx101) (ND := zNx101) LL_1 TTl_ok ze101 (zcks_ok zK101) (c := .ofNat 0) rfl List.mem_cons_self
/-- lot -/
def zMx102 : List Nat := [91]
def zTx102 : zS := ([(0, (2, 89, .ofNat 0)), (1, (0, 26, .ofNat 0)), (2, (0, 27, .ofNat 0))], [], [(90, zWr (.inr (0, 28, .ofNat 0)))], (26, .negSucc 2147483647, .ofNat 2147483647) :: (27, .negSucc 2147483647, .ofNat 2147483647) :: (28, .ofNat 0, .ofNat 6) :: zWB, zWF, 29)
def zXx102 : zS := ([], [(0, 2, .ofNat 0)], [], [(2, .negSucc 2147483647, .ofNat 2147483647)], [], 3)
def zSx102 : zSm := (132, 3, zTx102, zXx102, zMx102)
def zn102_0 : zNd := (132, 0, zTx102, [], .ofNat 0, [])
def zNx102 : List zNd := [zn102_0]
def zEx102 : List zSm := []
theorem ze102 : ∀ q ∈ zEx102, SmOk LL q := fun _ h => absurd h List.not_mem_nil
def zYx102 : List (Nat × Nat) := []
def zQx102 : List zSp := []
theorem zK102 : zcks LL TTl zMx102 zEx102 zYx102 zNx102 zXx102 zQx102 2 100000 zNx102 = true := by decide +kernel
theorem zO102 : SmOk LL zSx102 := sm_ok (D := 2) (fu := 100000) (SP := zQx102) (NP := zYx102) (ND := zNx102) LL_1 TTl_ok ze102 (zcks_ok zK102) (c := .ofNat 0) rfl List.mem_cons_self
/-- worth -/
def zMx103 : List Nat := [91]
def zTx103 : zS := ([(0, (2, 89, .ofNat 0)), (1, (0, 26, .ofNat 0)), (2, (0, 27, .ofNat 0))], [], [(90, zWr (.inr (0, 28, .ofNat 0)))], (26, .negSucc 2147483647, .ofNat 2147483647) :: (27, .negSucc 2147483647, .ofNat 2147483647) :: (28, .ofNat 0, .ofNat 6) :: zWB, zWF, 29)
def zXx103 : zS := ([], [(0, 2, .ofNat 0)], [], [(2, .negSucc 2147483647, .ofNat 2147483647)], [], 3)
def zSx103 : zSm := (135, 3, zTx103, zXx103, zMx103)
def zn103_0 : zNd := (135, 0, zTx103, [], .ofNat 0, [])
def zNx103 : List zNd := [zn103_0]
def zEx103 : List zSm := []
theorem ze103 : ∀ q ∈ zEx103, SmOk LL q := fun _ h => absurd h List.not_mem_nil
def zYx103 : List (Nat × Nat) := []
def zQx103 : List zSp := []
theorem zK103 : zcks LL TTl zMx103 zEx103 zYx103 zNx103 zXx103 zQx103 2 100000 zNx103 = true := by decide +kernel
theorem zO103 : SmOk LL zSx103 := sm_ok (D := 2) (fu := 100000) (SP := zQx103) (NP := zYx103) (ND := zNx103) LL_1 TTl_ok ze103 (zcks_ok zK103) (c := .ofNat 0) rfl List.mem_cons_self
/-- turn -/
def zMx104 : List Nat := [91, 94, 95]
def zTx104 : zS := ([(0, (2, 89, .ofNat 0)), (1, (0, 26, .ofNat 0))], [], [(90, zWr (.inr (0, 27, .ofNat 0)))], (26, .negSucc 2147483647, .ofNat 2147483647) :: (27, .ofNat 0, .ofNat 6) :: zWB, zWF, 28)
def zXx104 : zS := ([], [(0, 2, .ofNat 0)], [], [(2, .negSucc 1, .ofNat 3)], [], 3)
def zSx104 : zSm := (127, 5, zTx104, zXx104, zMx104)
def zn104_0 : zNd := (127, 0, zTx104, [], .ofNat 0, [])
def zNx104 : List zNd := [zn104_0]
def zEx104 : List zSm := [zSx64]
theorem ze104 : ∀ q ∈ zEx104, SmOk LL q := List.forall_mem_cons.mpr ⟨zO64, fun _ h => absurd h List.not_mem_nil⟩
def zYx104 : List (Nat × Nat) := []
def zQx104 : List zSp := []
theorem zK104 : zcks LL TTl zMx104 zEx104 zYx104 zNx104 zXx104 zQx104 4 100000 zNx104 = true := by decide +kernel
theorem zO104 : SmOk LL zSx104 := sm_ok (D := 4) (fu := 100000) (SP := zQx104) (NP := zYx104) (ND := zNx104) LL_1 TTl_ok ze104 (zcks_ok zK104) (c := .ofNat 0) rfl List.mem_cons_self
/-- turnsOf -/
def zMx105 : List Nat := [94, 95]
def zTx105 : zS := ([(0, (2, 89, .ofNat 0)), (1, (0, 26, .ofNat 0)), (2, (0, 27, .ofNat 0))], [], [(90, zWr (.inr (0, 28, .ofNat 0)))], (26, .ofNat 0, .ofNat 3) :: (27, .ofNat 0, .ofNat 6) :: (28, .ofNat 0, .ofNat 6) :: zWB, zWF, 29)
def zXx105 : zS := ([], [(0, 2, .ofNat 0)], [], [(2, .negSucc 2147483647, .ofNat 2147483647)], [], 3)
def zSx105 : zSm := (128, 4, zTx105, zXx105, zMx105)
def zn105_0 : zNd := (128, 0, zTx105, [], .ofNat 14, [])
def zn105_1 : zNd := (128, 9, ([(0, (2, 89, .ofNat 0)), (1, (0, 26, .ofNat 0)), (2, (0, 27, .ofNat 0)), (3, (0, 28, .ofNat 0)), (4, (0, 29, .ofNat 0))], [], [(90, zWr (.inr (0, 30, .ofNat 0)))], (26, .ofNat 0, .ofNat 3) :: (27, .ofNat 0, .ofNat 6) :: (28, .negSucc 2147483647, .ofNat 2147483647) :: (29, .ofNat 0, .ofNat 6) :: (30, .ofNat 0, .ofNat 6) :: zWB, zWF, 31), [], .ofNat 12, [(.negSucc 1, 29)])
def zNx105 : List zNd := [zn105_0, zn105_1]
def zEx105 : List zSm := [zSx64]
theorem ze105 : ∀ q ∈ zEx105, SmOk LL q := List.forall_mem_cons.mpr ⟨zO64, fun _ h => absurd h List.not_mem_nil⟩
def zYx105 : List (Nat × Nat) := [(128, 9)]
def zQx105 : List zSp := []
theorem zK105 : zcks LL TTl zMx105 zEx105 zYx105 zNx105 zXx105 zQx105 3 100000 zNx105 = true := by decide +kernel
theorem zO105 : SmOk LL zSx105 := sm_ok (D := 3) (fu := 100000) (SP := zQx105) (NP := zYx105) (ND := zNx105) LL_1 TTl_ok ze105 (zcks_ok zK105) (c := .ofNat 14) rfl List.mem_cons_self
/-- partyIs -/
def zMx106 : List Nat := [94, 95]
def zTx106 : zS := ([(0, (2, 89, .ofNat 0)), (1, (0, 26, .ofNat 0)), (2, (0, 27, .ofNat 0))], [], [(90, zWr (.inr (0, 28, .ofNat 0)))], (26, .ofNat 0, .ofNat 3) :: (27, .ofNat 0, .ofNat 5) :: (28, .ofNat 0, .ofNat 6) :: zWB, zWF, 29)
def zXx106 : zS := ([], [(0, 2, .ofNat 0)], [], [(2, .negSucc 2147483647, .ofNat 2147483647)], [], 3)
def zSx106 : zSm := (133, 5, zTx106, zXx106, zMx106)
def zn106_0 : zNd := (133, 0, zTx106, [], .ofNat 0, [])
def zNx106 : List zNd := [zn106_0]
def zEx106 : List zSm := [zSx65, zSx66, zSx105]
theorem ze106 : ∀ q ∈ zEx106, SmOk LL q := List.forall_mem_cons.mpr ⟨zO65, List.forall_mem_cons.mpr ⟨zO66, List.forall_mem_cons.mpr ⟨zO105, fun _ h => absurd h List.not_mem_nil⟩⟩⟩
def zYx106 : List (Nat × Nat) := []
def zQx106 : List zSp := []
theorem zK106 : zcks LL TTl zMx106 zEx106 zYx106 zNx106 zXx106 zQx106 4 100000 zNx106 = true := by decide +kernel
theorem zO106 : SmOk LL zSx106 := sm_ok (D := 4) (fu := 100000) (SP := zQx106) (NP := zYx106) (ND := zNx106) LL_1 TTl_ok ze106 (zcks_ok zK106) (c := .ofNat 0) rfl List.mem_cons_self
/-- party -/
def zMx107 : List Nat := [91, 94, 95]
def zTx107 : zS := ([(0, (2, 89, .ofNat 0)), (1, (0, 26, .ofNat 0)), (2, (0, 27, .ofNat 0))], [], [(90, zWr (.inr (0, 28, .ofNat 0)))], (26, .negSucc 2147483647, .ofNat 2147483647) :: (27, .negSucc 2147483647, .ofNat 2147483647) :: (28, .ofNat 0, .ofNat 6) :: zWB, zWF, 29)
def zXx107 : zS := ([], [(0, 2, .ofNat 0)], [], [(2, .negSucc 2147483647, .ofNat 2147483647)], [], 3)
def zSx107 : zSm := (134, 6, zTx107, zXx107, zMx107)
def zn107_0 : zNd := (134, 0, zTx107, [], .ofNat 0, [])
def zNx107 : List zNd := [zn107_0]
def zEx107 : List zSm := [zSx106]
theorem ze107 : ∀ q ∈ zEx107, SmOk LL q := List.forall_mem_cons.mpr ⟨zO106, fun _ h => absurd h List.not_mem_nil⟩
def zYx107 : List (Nat × Nat) := []
def zQx107 : List zSp := []
theorem zK107 : zcks LL TTl zMx107 zEx107 zYx107 zNx107 zXx107 zQx107 5 100000 zNx107 = true := by decide +kernel
theorem zO107 : SmOk LL zSx107 := sm_ok (D := 5) (fu := 100000) (SP := zQx107) (NP := zYx107) (ND := zNx107) LL_1 TTl_ok ze107 (zcks_ok zK107) (c := .ofNat 0) rfl List.mem_cons_self
/-- foreseen -/
def zMx108 : List Nat := [89, 91, 94, 95, 96, 97, 98, 99]
def zTx108 : zS := ([(0, (2, 89, .ofNat 0)), (1, (0, 26, .ofNat 0))], [], [(90, zWr (.inr (0, 27, .ofNat 0)))], (26, .negSucc 2147483647, .ofNat 2147483647) :: (27, .ofNat 0, .ofNat 6) :: zWB, zWF, 28)
def zXx108 : zS := ([], [(0, 2, .ofNat 0)], [], [(2, .negSucc 2147483647, .ofNat 2147483647)], [], 3)
def zSx108 : zSm := (155, 7, zTx108, zXx108, zMx108)
def zn108_0 : zNd := (155, 0, zTx108, [], .ofNat 0, [])
def zNx108 : List zNd := [zn108_0]
def zEx108 : List zSm := [zSx100]
theorem ze108 : ∀ q ∈ zEx108, SmOk LL q := List.forall_mem_cons.mpr ⟨zO100, fun _ h => absurd h List.not_mem_nil⟩
def zYx108 : List (Nat × Nat) := []
def zQx108 : List zSp := []
theorem zK108 : zcks LL TTl zMx108 zEx108 zYx108 zNx108 zXx108 zQx108 6 100000 zNx108 = true := by decide +kernel
theorem zO108 : SmOk LL zSx108 := sm_ok (D := 6) (fu := 100000) (SP := zQx108) (NP := zYx108) (ND := zNx108) LL_1 TTl_ok ze108 (zcks_ok zK108) (c := .ofNat 0) rfl List.mem_cons_self
/-- best -/
def zMx109 : List Nat := [89, 91, 94, 95, 96, 97, 98, 99]
def zTx109 : zS := ([(0, (2, 89, .ofNat 0))], [], [(90, zWr (.inr (0, 26, .ofNat 0)))], (26, .ofNat 0, .ofNat 6) :: zWB, zWF, 27)
def zXx109 : zS := ([], [(0, 2, .ofNat 0)], [], [(2, .negSucc 0, .ofNat 5)], [], 3)
def zSx109 : zSm := (156, 6, zTx109, zXx109, zMx109)
def zn109_0 : zNd := (156, 0, zTx109, [], .ofNat 14, [])
def zn109_1 : zNd := (156, 1, ([(0, (2, 89, .ofNat 0))], [(2, 89, .ofNat 0)], [(90, zWr (.inr (0, 1, .ofNat 6)))], (4, .ofNat 1, .ofNat 4) :: zWB, zWF, 26), [], .ofNat 0, [])
def zn109_2 : zNd := (156, 1, ([(0, (2, 89, .ofNat 0))], [(2, 89, .ofNat 0)], [(90, zWr (.inr (0, 1, .ofNat 6)))], (4, .ofNat 0, .ofNat 0) :: zWB, zWF, 26), [], .ofNat 1, [])
def zn109_3 : zNd := (156, 1, ([(0, (2, 89, .ofNat 0))], [(2, 89, .ofNat 0)], [(90, zWr (.inr (0, 1, .ofNat 5)))], (4, .ofNat 1, .ofNat 4) :: zWB, zWF, 26), [], .ofNat 2, [])
def zn109_4 : zNd := (156, 1, ([(0, (2, 89, .ofNat 0))], [(2, 89, .ofNat 0)], [(90, zWr (.inr (0, 1, .ofNat 5)))], (4, .ofNat 0, .ofNat 0) :: zWB, zWF, 26), [], .ofNat 3, [])
def zn109_5 : zNd := (156, 1, ([(0, (2, 89, .ofNat 0))], [(2, 89, .ofNat 0)], [(90, zWr (.inr (0, 1, .ofNat 4)))], (4, .ofNat 1, .ofNat 4) :: zWB, zWF, 26), [], .ofNat 4, [])
def zn109_6 : zNd := (156, 1, ([(0, (2, 89, .ofNat 0))], [(2, 89, .ofNat 0)], [(90, zWr (.inr (0, 1, .ofNat 4)))], (4, .ofNat 0, .ofNat 0) :: zWB, zWF, 26), [], .ofNat 5, [])
def zn109_7 : zNd := (156, 1, ([(0, (2, 89, .ofNat 0))], [(2, 89, .ofNat 0)], [(90, zWr (.inr (0, 1, .ofNat 3)))], (4, .ofNat 1, .ofNat 4) :: zWB, zWF, 26), [], .ofNat 6, [])
def zn109_8 : zNd := (156, 1, ([(0, (2, 89, .ofNat 0))], [(2, 89, .ofNat 0)], [(90, zWr (.inr (0, 1, .ofNat 3)))], (4, .ofNat 0, .ofNat 0) :: zWB, zWF, 26), [], .ofNat 7, [])
def zn109_9 : zNd := (156, 1, ([(0, (2, 89, .ofNat 0))], [(2, 89, .ofNat 0)], [(90, zWr (.inr (0, 1, .ofNat 2)))], (4, .ofNat 1, .ofNat 4) :: zWB, zWF, 26), [], .ofNat 8, [])
def zn109_10 : zNd := (156, 1, ([(0, (2, 89, .ofNat 0))], [(2, 89, .ofNat 0)], [(90, zWr (.inr (0, 1, .ofNat 2)))], (4, .ofNat 0, .ofNat 0) :: zWB, zWF, 26), [], .ofNat 9, [])
def zn109_11 : zNd := (156, 1, ([(0, (2, 89, .ofNat 0))], [(2, 89, .ofNat 0)], [(90, zWr (.inr (0, 1, .ofNat 1)))], (4, .ofNat 1, .ofNat 4) :: zWB, zWF, 26), [], .ofNat 10, [])
def zn109_12 : zNd := (156, 1, ([(0, (2, 89, .ofNat 0))], [(2, 89, .ofNat 0)], [(90, zWr (.inr (0, 1, .ofNat 1)))], (4, .ofNat 0, .ofNat 0) :: zWB, zWF, 26), [], .ofNat 11, [])
def zn109_13 : zNd := (156, 1, ([(0, (2, 89, .ofNat 0))], [(2, 89, .ofNat 0)], [(90, zWr (.inr (0, 1, .ofNat 0)))], (4, .ofNat 1, .ofNat 4) :: zWB, zWF, 26), [], .ofNat 12, [])
def zn109_14 : zNd := (156, 1, ([(0, (2, 89, .ofNat 0))], [(2, 89, .ofNat 0)], [(90, zWr (.inr (0, 1, .ofNat 0)))], (4, .ofNat 0, .ofNat 0) :: zWB, zWF, 26), [], .ofNat 13, [])
def zNx109 : List zNd := [zn109_0, zn109_1, zn109_2, zn109_3, zn109_4, zn109_5, zn109_6, zn109_7, zn109_8, zn109_9, zn109_10, zn109_11, zn109_12, zn109_13, zn109_14]
def zEx109 : List zSm := [zSx56, zSx57, zSx58, zSx59, zSx60, zSx61, zSx62, zSx63, zSx69, zSx73, zSx74, zSx75, zSx76, zSx77, zSx78, zSx94, zSx95, zSx96, zSx97, zSx98, zSx99]
theorem ze109 : ∀ q ∈ zEx109, SmOk LL q := List.forall_mem_cons.mpr ⟨zO56, List.forall_mem_cons.mpr ⟨zO57, List.forall_mem_cons.mpr ⟨zO58, List.forall_mem_cons.mpr ⟨zO59, List.forall_mem_cons.mpr ⟨zO60, List.forall_mem_cons.mpr ⟨zO61, List.forall_mem_cons.mpr ⟨zO62, List.forall_mem_cons.mpr ⟨zO63, List.forall_mem_cons.mpr ⟨zO69, List.forall_mem_cons.mpr ⟨zO73, List.forall_mem_cons.mpr ⟨zO74, List.forall_mem_cons.mpr ⟨zO75, List.forall_mem_cons.mpr ⟨zO76, List.forall_mem_cons.mpr ⟨zO77, List.forall_mem_cons.mpr ⟨zO78, List.forall_mem_cons.mpr ⟨zO94, List.forall_mem_cons.mpr ⟨zO95, List.forall_mem_cons.mpr ⟨zO96, List.forall_mem_cons.mpr ⟨zO97, List.forall_mem_cons.mpr ⟨zO98, List.forall_mem_cons.mpr ⟨zO99, fun _ h => absurd h List.not_mem_nil⟩⟩⟩⟩⟩⟩⟩⟩⟩⟩⟩⟩⟩⟩⟩⟩⟩⟩⟩⟩⟩
def zYx109 : List (Nat × Nat) := [(156, 1)]
def zQx109 : List zSp := [(156, 0, 2, 90, 0, none), (156, 0, 2, 90, 1, some (.ofNat 0)), (156, 1, 2, 90, 4, none)]
theorem zK109_0 : zcks LL TTl zMx109 zEx109 zYx109 zNx109 zXx109 zQx109 5 100000 [zn109_0, zn109_1, zn109_2, zn109_3, zn109_4, zn109_5, zn109_6] = true := by decide +kernel
theorem zK109_1 : zcks LL TTl zMx109 zEx109 zYx109 zNx109 zXx109 zQx109 5 100000 [zn109_7, zn109_8, zn109_9, zn109_10, zn109_11, zn109_12, zn109_13, zn109_14] = true := by decide +kernel
theorem zk109 : ∀ nd ∈ zNx109, zck LL TTl zMx109 zEx109 zYx109 zNx109 zXx109 zQx109 5 100000 nd = true := zck2 (zcks_ok zK109_0) (zcks_ok zK109_1)
theorem zO109 : SmOk LL zSx109 := sm_ok (D := 5) (fu := 100000) (SP := zQx109) (NP := zYx109) (ND := zNx109) LL_1 TTl_ok ze109 zk109 (c := .ofNat 14) rfl List.mem_cons_self
/-- without -/
def zMx110 : List Nat := [89, 91, 94, 95, 96, 97, 98, 99]
def zTx110 : zS := ([(0, (2, 89, .ofNat 0)), (1, (0, 26, .ofNat 0)), (2, (0, 27, .ofNat 0))], [], [(90, zWr (.inr (0, 28, .ofNat 0)))], (26, .negSucc 2147483647, .ofNat 2147483647) :: (27, .negSucc 2147483647, .ofNat 2147483647) :: (28, .ofNat 0, .ofNat 6) :: zWB, zWF, 29)
def zXx110 : zS := ([], [(0, 2, .ofNat 0)], [], [(2, .negSucc 2147483647, .ofNat 2147483647)], [], 3)
def zSx110 : zSm := (163, 7, zTx110, zXx110, zMx110)
def zn110_0 : zNd := (163, 0, zTx110, [], .ofNat 0, [])
def zNx110 : List zNd := [zn110_0]
def zEx110 : List zSm := [zSx100]
theorem ze110 : ∀ q ∈ zEx110, SmOk LL q := List.forall_mem_cons.mpr ⟨zO100, fun _ h => absurd h List.not_mem_nil⟩
def zYx110 : List (Nat × Nat) := []
def zQx110 : List zSp := [(163, 65, 1, 0, 0, none)]
theorem zK110 : zcks LL TTl zMx110 zEx110 zYx110 zNx110 zXx110 zQx110 6 100000 zNx110 = true := by decide +kernel
theorem zO110 : SmOk LL zSx110 := sm_ok (D := 6) (fu := 100000) (SP := zQx110) (NP := zYx110) (ND := zNx110) LL_1 TTl_ok ze110 (zcks_ok zK110) (c := .ofNat 0) rfl List.mem_cons_self
