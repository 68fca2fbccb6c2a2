/-! the checker on the methods, printed -/
/-- laysWithin6 -/
def zMx85 : List Nat := [89, 94, 95, 97, 98, 99]
def zTx85 : zS := ([(0, (2, 89, .ofNat 0)), (1, (0, 26, .ofNat 0))], [], [(90, zWr (.inr (0, 1, .ofNat 6)))], (4, .ofNat 1, .ofNat 4) :: (26, .ofNat 1, .ofNat 63) :: zWB, zWF, 27)
def zXx85 : zS := ([], [], [], [], [], 2)
def zSx85 : zSm := (151, 4, zTx85, zXx85, zMx85)
def zn85_0 : zNd := (151, 0, zTx85, [], .ofNat 2244, [])
def zn85_1 : zNd := (151, 28, ([(0, (2, 89, .ofNat 0)), (1, (0, 26, .ofNat 0)), (2, (0, 27, .ofNat 0)), (3, (0, 28, .ofNat 0))], [], [(90, zWr (.inr (0, 1, .ofNat 6)))], (4, .ofNat 1, .ofNat 4) :: (26, .ofNat 1, .ofNat 63) :: (27, .ofNat 0, .ofNat 3) :: (28, .ofNat 0, .ofNat 16) :: zWB, zWF, 29), [], .ofNat 2242, [(.negSucc 131, 28)])
def zn85_2 : zNd := (151, 37, ([(0, (2, 89, .ofNat 0)), (1, (0, 26, .ofNat 0)), (2, (0, 27, .ofNat 0)), (3, (0, 28, .ofNat 0)), (4, (0, 29, .ofNat 0))], [], [(90, zWr (.inr (0, 1, .ofNat 6)))], (4, .ofNat 1, .ofNat 4) :: (26, .ofNat 1, .ofNat 63) :: (27, .ofNat 0, .ofNat 3) :: (28, .ofNat 0, .ofNat 15) :: (29, .ofNat 0, .ofNat 64) :: zWB, zWF, 30), [], .ofNat 2240, [(.negSucc 131, 28), (.negSucc 1, 29)])
def zNx85 : List zNd := [zn85_0, zn85_1, zn85_2]
def zEx85 : List zSm := [zSx62, zSx67, zSx68, zSx69]
theorem ze85 : ∀ q ∈ zEx85, SmOk LL q := List.forall_mem_cons.mpr ⟨zO62, List.forall_mem_cons.mpr ⟨zO67, List.forall_mem_cons.mpr ⟨zO68, List.forall_mem_cons.mpr ⟨zO69, fun _ h => absurd h List.not_mem_nil⟩⟩⟩⟩
def zYx85 : List (Nat × Nat) := [(151, 28), (151, 37)]
def zQx85 : List zSp := [(151, 0, 0, 1, 0, none)]
theorem zK85_0 : zcks LL TTl zMx85 zEx85 zYx85 zNx85 zXx85 zQx85 3 100000 [zn85_0] = true := by decide +kernel
theorem zK85_1 : zcks LL TTl zMx85 zEx85 zYx85 zNx85 zXx85 zQx85 3 100000 [zn85_1, zn85_2] = true := by decide +kernel
theorem zk85 : ∀ nd ∈ zNx85, zck LL TTl zMx85 zEx85 zYx85 zNx85 zXx85 zQx85 3 100000 nd = true := zck2 (zcks_ok zK85_0) (zcks_ok zK85_1)
theorem zO85 : SmOk LL zSx85 := sm_ok (D := 3) (fu := 100000) (SP := zQx85) (NP := zYx85) (ND := zNx85) LL_1 TTl_ok ze85 zk85 (c := .ofNat 2244) rfl List.mem_cons_self
/-- laysEnds0 -/
def zMx86 : List Nat := [89, 94, 95, 96, 97, 98, 99]
def zTx86 : zS := ([(1, (0, 1, .ofNat 0)), (0, (2, 89, .ofNat 0))], [], [(90, zWr (.inr (0, 1, .ofNat 0)))], (4, .ofNat 1, .ofNat 4) :: zWB, zWF, 26)
def zXx86 : zS := ([], [], [], [], [], 2)
def zSx86 : zSm := (152, 1, zTx86, zXx86, zMx86)
def zn86_0 : zNd := (152, 0, zTx86, [], .ofNat 131, [])
def zn86_1 : zNd := (152, 2, ([(1, (0, 1, .ofNat 0)), (0, (2, 89, .ofNat 0)), (2, (0, 26, .ofNat 0))], [], [(90, zWr (.inr (0, 1, .ofNat 0)))], (4, .ofNat 1, .ofNat 4) :: (26, .ofNat 0, .ofNat 64) :: zWB, zWF, 27), [], .ofNat 129, [(.negSucc 1, 26)])
def zn86_2 : zNd := (152, 23, ([(1, (0, 1, .ofNat 0)), (2, (0, 1, .ofNat 1)), (0, (2, 89, .ofNat 0))], [], [(90, zWr (.inr (0, 1, .ofNat 0)))], (4, .ofNat 1, .ofNat 4) :: zWB, zWF, 26), [], .ofNat 0, [])
def zNx86 : List zNd := [zn86_0, zn86_1, zn86_2]
def zEx86 : List zSm := []
theorem ze86 : ∀ q ∈ zEx86, SmOk LL q := fun _ h => absurd h List.not_mem_nil
def zYx86 : List (Nat × Nat) := [(152, 2), (152, 23)]
def zQx86 : List zSp := []
theorem zK86 : zcks LL TTl zMx86 zEx86 zYx86 zNx86 zXx86 zQx86 0 100000 zNx86 = true := by decide +kernel
theorem zO86 : SmOk LL zSx86 := sm_ok (D := 0) (fu := 100000) (SP := zQx86) (NP := zYx86) (ND := zNx86) LL_1 TTl_ok ze86 (zcks_ok zK86) (c := .ofNat 131) rfl List.mem_cons_self
