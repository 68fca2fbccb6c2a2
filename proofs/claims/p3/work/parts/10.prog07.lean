theorem k_130_0 : Ok M130 0 (oS (gKo (.int 0)) 1) := r_iconst (n := 0) (by decide +kernel) (by decide +kernel)
theorem k_130_1 : Ok M130 1 (oSI 2 4 2) := r_istore_n (j := 2) (by decide +kernel) rfl
theorem k_130_2 : Ok M130 2 (oS (gKo (.int 0)) 3) := r_iconst (n := 0) (by decide +kernel) (by decide +kernel)
theorem k_130_3 : Ok M130 3 (oSI 3 4 4) := r_istore_n (j := 3) (by decide +kernel) rfl
theorem k_130_4 : Ok M130 4 (oLI 3 5) := r_iload_n (j := 3) (by decide +kernel) rfl
theorem k_130_5 : Ok M130 5 (oLA 0 6) := r_aload_n (j := 0) (by decide +kernel) rfl
theorem k_130_6 : Ok M130 6 (oGe 5 0 9) := r_get (idx := 7) (by decide +kernel) cd_5 0 (by decide) w_678 rfl
theorem k_130_9 : Ok M130 9 (oS (gKo (.int 0)) 10) := r_iconst (n := 0) (by decide +kernel) (by decide +kernel)
theorem k_130_10 : Ok M130 10 (oAI 11) := r_iaload (by decide +kernel)
theorem k_130_11 : Ok M130 11 (oB2 b_icmp_ge q_ge 29 14) := r_icmp_ge (off := 18) (by decide +kernel) (by decide +kernel)
theorem k_130_14 : Ok M130 14 (oLI 2 15) := r_iload_n (j := 2) (by decide +kernel) rfl
theorem k_130_15 : Ok M130 15 (oLA 0 16) := r_aload_n (j := 0) (by decide +kernel) rfl
theorem k_130_16 : Ok M130 16 (oLI 1 17) := r_iload_n (j := 1) (by decide +kernel) rfl
theorem k_130_17 : Ok M130 17 (oLI 3 18) := r_iload_n (j := 3) (by decide +kernel) rfl
theorem k_130_18 : Ok M130 18 (oCV 5 104 2) := r_callV (idx := 155) (by decide +kernel) w_885 cv_104
theorem k_130_21 : Ok M130 21 (oS (gI2 f_iadd) 22) := r_iadd (by decide +kernel)
theorem k_130_22 : Ok M130 22 (oSI 2 4 23) := r_istore_n (j := 2) (by decide +kernel) rfl
theorem k_130_23 : Ok M130 23 (oInc 3 1 4 26) := r_iinc (n := 1) (by decide +kernel) (by decide +kernel)
theorem k_130_26 : Ok M130 26 (oGo 4) := r_goto (off := (-22)) (by decide +kernel) (by decide +kernel)
theorem k_130_29 : Ok M130 29 (oLI 2 30) := r_iload_n (j := 2) (by decide +kernel) rfl
theorem k_130_30 : Ok M130 30 (oRI) := r_ireturn rfl (by decide +kernel)
def B130_0 : List (Nat × aO) := [(0, oS (gKo (.int 0)) 1), (1, oSI 2 4 2), (2, oS (gKo (.int 0)) 3), (3, oSI 3 4 4), (4, oLI 3 5), (5, oLA 0 6), (6, oGe 5 0 9), (9, oS (gKo (.int 0)) 10)]
theorem B130_0_ok : ∀ q ∈ B130_0, Ok M130 q.1 q.2 := List.forall_mem_cons.mpr ⟨k_130_0, List.forall_mem_cons.mpr ⟨k_130_1, List.forall_mem_cons.mpr ⟨k_130_2, List.forall_mem_cons.mpr ⟨k_130_3, List.forall_mem_cons.mpr ⟨k_130_4, List.forall_mem_cons.mpr ⟨k_130_5, List.forall_mem_cons.mpr ⟨k_130_6, List.forall_mem_cons.mpr ⟨k_130_9, fun _ h => absurd h List.not_mem_nil⟩⟩⟩⟩⟩⟩⟩⟩
def B130_1 : List (Nat × aO) := [(10, oAI 11), (11, oB2 b_icmp_ge q_ge 29 14), (14, oLI 2 15), (15, oLA 0 16), (16, oLI 1 17), (17, oLI 3 18), (18, oCV 5 104 2), (21, oS (gI2 f_iadd) 22)]
theorem B130_1_ok : ∀ q ∈ B130_1, Ok M130 q.1 q.2 := List.forall_mem_cons.mpr ⟨k_130_10, List.forall_mem_cons.mpr ⟨k_130_11, List.forall_mem_cons.mpr ⟨k_130_14, List.forall_mem_cons.mpr ⟨k_130_15, List.forall_mem_cons.mpr ⟨k_130_16, List.forall_mem_cons.mpr ⟨k_130_17, List.forall_mem_cons.mpr ⟨k_130_18, List.forall_mem_cons.mpr ⟨k_130_21, fun _ h => absurd h List.not_mem_nil⟩⟩⟩⟩⟩⟩⟩⟩
def B130_2 : List (Nat × aO) := [(22, oSI 2 4 23), (23, oInc 3 1 4 26), (26, oGo 4), (29, oLI 2 30), (30, oRI)]
theorem B130_2_ok : ∀ q ∈ B130_2, Ok M130 q.1 q.2 := List.forall_mem_cons.mpr ⟨k_130_22, List.forall_mem_cons.mpr ⟨k_130_23, List.forall_mem_cons.mpr ⟨k_130_26, List.forall_mem_cons.mpr ⟨k_130_29, List.forall_mem_cons.mpr ⟨k_130_30, fun _ h => absurd h List.not_mem_nil⟩⟩⟩⟩⟩
def P130 : List (Nat × List (Nat × aO)) := [(9, B130_0), (21, B130_1), (30, B130_2)]
theorem P130_ok : ∀ b ∈ P130, ∀ q ∈ b.2, Ok M130 q.1 q.2 := List.forall_mem_cons.mpr ⟨B130_0_ok, List.forall_mem_cons.mpr ⟨B130_1_ok, List.forall_mem_cons.mpr ⟨B130_2_ok, fun _ h => absurd h List.not_mem_nil⟩⟩⟩
theorem k_131_0 : Ok M131 0 (oLI 2 1) := r_iload_n (j := 2) (by decide +kernel) rfl
theorem k_131_1 : Ok M131 1 (oB1 b_if_ne q_ne 16 4) := r_if_ne (off := 15) (by decide +kernel) (by decide +kernel)
theorem k_131_4 : Ok M131 4 (oLA 0 5) := r_aload_n (j := 0) (by decide +kernel) rfl
theorem k_131_5 : Ok M131 5 (oGe 5 0 8) := r_get (idx := 7) (by decide +kernel) cd_5 0 (by decide) w_678 rfl
theorem k_131_8 : Ok M131 8 (oS (gKo (.int 9)) 10) := r_bipush (n := 9) (by decide +kernel) (by decide +kernel)
theorem k_131_10 : Ok M131 10 (oLI 1 11) := r_iload_n (j := 1) (by decide +kernel) rfl
theorem k_131_11 : Ok M131 11 (oS (gI2 f_iadd) 12) := r_iadd (by decide +kernel)
theorem k_131_12 : Ok M131 12 (oAI 13) := r_iaload (by decide +kernel)
theorem k_131_13 : Ok M131 13 (oGo 60) := r_goto (off := 47) (by decide +kernel) (by decide +kernel)
theorem k_131_16 : Ok M131 16 (oLI 2 17) := r_iload_n (j := 2) (by decide +kernel) rfl
theorem k_131_17 : Ok M131 17 (oS (gKo (.int 1)) 18) := r_iconst (n := 1) (by decide +kernel) (by decide +kernel)
theorem k_131_18 : Ok M131 18 (oB2 b_icmp_ne q_ne 33 21) := r_icmp_ne (off := 15) (by decide +kernel) (by decide +kernel)
theorem k_131_21 : Ok M131 21 (oLA 0 22) := r_aload_n (j := 0) (by decide +kernel) rfl
theorem k_131_22 : Ok M131 22 (oGe 5 0 25) := r_get (idx := 7) (by decide +kernel) cd_5 0 (by decide) w_678 rfl
theorem k_131_25 : Ok M131 25 (oS (gKo (.int 15)) 27) := r_bipush (n := 15) (by decide +kernel) (by decide +kernel)
theorem k_131_27 : Ok M131 27 (oLI 1 28) := r_iload_n (j := 1) (by decide +kernel) rfl
theorem k_131_28 : Ok M131 28 (oS (gI2 f_iadd) 29) := r_iadd (by decide +kernel)
theorem k_131_29 : Ok M131 29 (oAI 30) := r_iaload (by decide +kernel)
theorem k_131_30 : Ok M131 30 (oGo 60) := r_goto (off := 30) (by decide +kernel) (by decide +kernel)
theorem k_131_33 : Ok M131 33 (oLI 2 34) := r_iload_n (j := 2) (by decide +kernel) rfl
theorem k_131_34 : Ok M131 34 (oS (gKo (.int 2)) 35) := r_iconst (n := 2) (by decide +kernel) (by decide +kernel)
theorem k_131_35 : Ok M131 35 (oB2 b_icmp_ne q_ne 50 38) := r_icmp_ne (off := 15) (by decide +kernel) (by decide +kernel)
theorem k_131_38 : Ok M131 38 (oLA 0 39) := r_aload_n (j := 0) (by decide +kernel) rfl
theorem k_131_39 : Ok M131 39 (oGe 5 0 42) := r_get (idx := 7) (by decide +kernel) cd_5 0 (by decide) w_678 rfl
theorem k_131_42 : Ok M131 42 (oS (gKo (.int 21)) 44) := r_bipush (n := 21) (by decide +kernel) (by decide +kernel)
theorem k_131_44 : Ok M131 44 (oLI 1 45) := r_iload_n (j := 1) (by decide +kernel) rfl
theorem k_131_45 : Ok M131 45 (oS (gI2 f_iadd) 46) := r_iadd (by decide +kernel)
theorem k_131_46 : Ok M131 46 (oAI 47) := r_iaload (by decide +kernel)
theorem k_131_47 : Ok M131 47 (oGo 60) := r_goto (off := 13) (by decide +kernel) (by decide +kernel)
theorem k_131_50 : Ok M131 50 (oLA 0 51) := r_aload_n (j := 0) (by decide +kernel) rfl
theorem k_131_51 : Ok M131 51 (oGe 5 0 54) := r_get (idx := 7) (by decide +kernel) cd_5 0 (by decide) w_678 rfl
theorem k_131_54 : Ok M131 54 (oS (gKo (.int 3)) 55) := r_iconst (n := 3) (by decide +kernel) (by decide +kernel)
theorem k_131_55 : Ok M131 55 (oAI 56) := r_iaload (by decide +kernel)
theorem k_131_56 : Ok M131 56 (oLI 1 57) := r_iload_n (j := 1) (by decide +kernel) rfl
theorem k_131_57 : Ok M131 57 (oS (gI2 f_ishr) 58) := r_ishr (by decide +kernel)
theorem k_131_58 : Ok M131 58 (oS (gKo (.int 1)) 59) := r_iconst (n := 1) (by decide +kernel) (by decide +kernel)
theorem k_131_59 : Ok M131 59 (oS (gI2 f_iand) 60) := r_iand (by decide +kernel)
theorem k_131_60 : Ok M131 60 (oRI) := r_ireturn rfl (by decide +kernel)
def B131_0 : List (Nat × aO) := [(0, oLI 2 1), (1, oB1 b_if_ne q_ne 16 4), (4, oLA 0 5), (5, oGe 5 0 8), (8, oS (gKo (.int 9)) 10), (10, oLI 1 11), (11, oS (gI2 f_iadd) 12), (12, oAI 13)]
theorem B131_0_ok : ∀ q ∈ B131_0, Ok M131 q.1 q.2 := List.forall_mem_cons.mpr ⟨k_131_0, List.forall_mem_cons.mpr ⟨k_131_1, List.forall_mem_cons.mpr ⟨k_131_4, List.forall_mem_cons.mpr ⟨k_131_5, List.forall_mem_cons.mpr ⟨k_131_8, List.forall_mem_cons.mpr ⟨k_131_10, List.forall_mem_cons.mpr ⟨k_131_11, List.forall_mem_cons.mpr ⟨k_131_12, fun _ h => absurd h List.not_mem_nil⟩⟩⟩⟩⟩⟩⟩⟩
def B131_1 : List (Nat × aO) := [(13, oGo 60), (16, oLI 2 17), (17, oS (gKo (.int 1)) 18), (18, oB2 b_icmp_ne q_ne 33 21), (21, oLA 0 22), (22, oGe 5 0 25), (25, oS (gKo (.int 15)) 27), (27, oLI 1 28)]
theorem B131_1_ok : ∀ q ∈ B131_1, Ok M131 q.1 q.2 := List.forall_mem_cons.mpr ⟨k_131_13, List.forall_mem_cons.mpr ⟨k_131_16, List.forall_mem_cons.mpr ⟨k_131_17, List.forall_mem_cons.mpr ⟨k_131_18, List.forall_mem_cons.mpr ⟨k_131_21, List.forall_mem_cons.mpr ⟨k_131_22, List.forall_mem_cons.mpr ⟨k_131_25, List.forall_mem_cons.mpr ⟨k_131_27, fun _ h => absurd h List.not_mem_nil⟩⟩⟩⟩⟩⟩⟩⟩
def B131_2 : List (Nat × aO) := [(28, oS (gI2 f_iadd) 29), (29, oAI 30), (30, oGo 60), (33, oLI 2 34), (34, oS (gKo (.int 2)) 35), (35, oB2 b_icmp_ne q_ne 50 38), (38, oLA 0 39), (39, oGe 5 0 42)]
theorem B131_2_ok : ∀ q ∈ B131_2, Ok M131 q.1 q.2 := List.forall_mem_cons.mpr ⟨k_131_28, List.forall_mem_cons.mpr ⟨k_131_29, List.forall_mem_cons.mpr ⟨k_131_30, List.forall_mem_cons.mpr ⟨k_131_33, List.forall_mem_cons.mpr ⟨k_131_34, List.forall_mem_cons.mpr ⟨k_131_35, List.forall_mem_cons.mpr ⟨k_131_38, List.forall_mem_cons.mpr ⟨k_131_39, fun _ h => absurd h List.not_mem_nil⟩⟩⟩⟩⟩⟩⟩⟩
def B131_3 : List (Nat × aO) := [(42, oS (gKo (.int 21)) 44), (44, oLI 1 45), (45, oS (gI2 f_iadd) 46), (46, oAI 47), (47, oGo 60), (50, oLA 0 51), (51, oGe 5 0 54), (54, oS (gKo (.int 3)) 55)]
theorem B131_3_ok : ∀ q ∈ B131_3, Ok M131 q.1 q.2 := List.forall_mem_cons.mpr ⟨k_131_42, List.forall_mem_cons.mpr ⟨k_131_44, List.forall_mem_cons.mpr ⟨k_131_45, List.forall_mem_cons.mpr ⟨k_131_46, List.forall_mem_cons.mpr ⟨k_131_47, List.forall_mem_cons.mpr ⟨k_131_50, List.forall_mem_cons.mpr ⟨k_131_51, List.forall_mem_cons.mpr ⟨k_131_54, fun _ h => absurd h List.not_mem_nil⟩⟩⟩⟩⟩⟩⟩⟩
def B131_4 : List (Nat × aO) := [(55, oAI 56), (56, oLI 1 57), (57, oS (gI2 f_ishr) 58), (58, oS (gKo (.int 1)) 59), (59, oS (gI2 f_iand) 60), (60, oRI)]
theorem B131_4_ok : ∀ q ∈ B131_4, Ok M131 q.1 q.2 := List.forall_mem_cons.mpr ⟨k_131_55, List.forall_mem_cons.mpr ⟨k_131_56, List.forall_mem_cons.mpr ⟨k_131_57, List.forall_mem_cons.mpr ⟨k_131_58, List.forall_mem_cons.mpr ⟨k_131_59, List.forall_mem_cons.mpr ⟨k_131_60, fun _ h => absurd h List.not_mem_nil⟩⟩⟩⟩⟩⟩
def P131 : List (Nat × List (Nat × aO)) := [(12, B131_0), (27, B131_1), (39, B131_2), (54, B131_3), (60, B131_4)]
theorem P131_ok : ∀ b ∈ P131, ∀ q ∈ b.2, Ok M131 q.1 q.2 := List.forall_mem_cons.mpr ⟨B131_0_ok, List.forall_mem_cons.mpr ⟨B131_1_ok, List.forall_mem_cons.mpr ⟨B131_2_ok, List.forall_mem_cons.mpr ⟨B131_3_ok, List.forall_mem_cons.mpr ⟨B131_4_ok, fun _ h => absurd h List.not_mem_nil⟩⟩⟩⟩⟩
theorem k_132_0 : Ok M132 0 (oLA 0 1) := r_aload_n (j := 0) (by decide +kernel) rfl
theorem k_132_1 : Ok M132 1 (oLI 1 2) := r_iload_n (j := 1) (by decide +kernel) rfl
theorem k_132_2 : Ok M132 2 (oCV 5 102 1) := r_callV (idx := 159) (by decide +kernel) w_860 cv_102
theorem k_132_5 : Ok M132 5 (oB1 b_if_eq q_eq 29 8) := r_if_eq (off := 24) (by decide +kernel) (by decide +kernel)
theorem k_132_8 : Ok M132 8 (oLI 2 9) := r_iload_n (j := 2) (by decide +kernel) rfl
theorem k_132_9 : Ok M132 9 (oS gIL 10) := r_i2l (by decide +kernel)
theorem k_132_10 : Ok M132 10 (oS (gKo (.long 0)) 11) := r_lconst (n := 0) (by decide +kernel) (by decide +kernel)
theorem k_132_11 : Ok M132 11 (oK (.long 3) 14) := r_ldc2 (i := 138) (by decide +kernel) w_831
theorem k_132_14 : Ok M132 14 (oCS 96 3) := r_callS (idx := 48) (by decide +kernel) w_744 cs_96
theorem k_132_17 : Ok M132 17 (oB1 b_if_eq q_eq 29 20) := r_if_eq (off := 12) (by decide +kernel) (by decide +kernel)
theorem k_132_20 : Ok M132 20 (oLA 0 21) := r_aload_n (j := 0) (by decide +kernel) rfl
theorem k_132_21 : Ok M132 21 (oLI 1 22) := r_iload_n (j := 1) (by decide +kernel) rfl
theorem k_132_22 : Ok M132 22 (oLI 2 23) := r_iload_n (j := 2) (by decide +kernel) rfl
theorem k_132_23 : Ok M132 23 (oCV 5 131 2) := r_callV (idx := 162) (by decide +kernel) w_864 cv_131
theorem k_132_26 : Ok M132 26 (oGo 35) := r_goto (off := 9) (by decide +kernel) (by decide +kernel)
theorem k_132_29 : Ok M132 29 (oLA 0 30) := r_aload_n (j := 0) (by decide +kernel) rfl
theorem k_132_30 : Ok M132 30 (oS (gKo (.int (-2))) 32) := r_bipush (n := (-2)) (by decide +kernel) (by decide +kernel)
theorem k_132_32 : Ok M132 32 (oCV 5 99 1) := r_callV (idx := 54) (by decide +kernel) w_747 cv_99
theorem k_132_35 : Ok M132 35 (oRI) := r_ireturn rfl (by decide +kernel)
def B132_0 : List (Nat × aO) := [(0, oLA 0 1), (1, oLI 1 2), (2, oCV 5 102 1), (5, oB1 b_if_eq q_eq 29 8), (8, oLI 2 9), (9, oS gIL 10), (10, oS (gKo (.long 0)) 11), (11, oK (.long 3) 14)]
theorem B132_0_ok : ∀ q ∈ B132_0, Ok M132 q.1 q.2 := List.forall_mem_cons.mpr ⟨k_132_0, List.forall_mem_cons.mpr ⟨k_132_1, List.forall_mem_cons.mpr ⟨k_132_2, List.forall_mem_cons.mpr ⟨k_132_5, List.forall_mem_cons.mpr ⟨k_132_8, List.forall_mem_cons.mpr ⟨k_132_9, List.forall_mem_cons.mpr ⟨k_132_10, List.forall_mem_cons.mpr ⟨k_132_11, fun _ h => absurd h List.not_mem_nil⟩⟩⟩⟩⟩⟩⟩⟩
def B132_1 : List (Nat × aO) := [(14, oCS 96 3), (17, oB1 b_if_eq q_eq 29 20), (20, oLA 0 21), (21, oLI 1 22), (22, oLI 2 23), (23, oCV 5 131 2), (26, oGo 35), (29, oLA 0 30)]
theorem B132_1_ok : ∀ q ∈ B132_1, Ok M132 q.1 q.2 := List.forall_mem_cons.mpr ⟨k_132_14, List.forall_mem_cons.mpr ⟨k_132_17, List.forall_mem_cons.mpr ⟨k_132_20, List.forall_mem_cons.mpr ⟨k_132_21, List.forall_mem_cons.mpr ⟨k_132_22, List.forall_mem_cons.mpr ⟨k_132_23, List.forall_mem_cons.mpr ⟨k_132_26, List.forall_mem_cons.mpr ⟨k_132_29, fun _ h => absurd h List.not_mem_nil⟩⟩⟩⟩⟩⟩⟩⟩
def B132_2 : List (Nat × aO) := [(30, oS (gKo (.int (-2))) 32), (32, oCV 5 99 1), (35, oRI)]
theorem B132_2_ok : ∀ q ∈ B132_2, Ok M132 q.1 q.2 := List.forall_mem_cons.mpr ⟨k_132_30, List.forall_mem_cons.mpr ⟨k_132_32, List.forall_mem_cons.mpr ⟨k_132_35, fun _ h => absurd h List.not_mem_nil⟩⟩⟩
def P132 : List (Nat × List (Nat × aO)) := [(11, B132_0), (29, B132_1), (35, B132_2)]
theorem P132_ok : ∀ b ∈ P132, ∀ q ∈ b.2, Ok M132 q.1 q.2 := List.forall_mem_cons.mpr ⟨B132_0_ok, List.forall_mem_cons.mpr ⟨B132_1_ok, List.forall_mem_cons.mpr ⟨B132_2_ok, fun _ h => absurd h List.not_mem_nil⟩⟩⟩
theorem k_133_0 : Ok M133 0 (oLI 2 1) := r_iload_n (j := 2) (by decide +kernel) rfl
theorem k_133_1 : Ok M133 1 (oTb [36, 46, 58, 64, 72] 84) := r_table (dflt := 83) (hi := 4) (offs := #[35, 45, 57, 63, 71]) (len := 35) (by decide +kernel) (by decide +kernel) (by decide +kernel) (by decide +kernel)
theorem k_133_36 : Ok M133 36 (oLA 0 37) := r_aload_n (j := 0) (by decide +kernel) rfl
theorem k_133_37 : Ok M133 37 (oGe 5 0 40) := r_get (idx := 7) (by decide +kernel) cd_5 0 (by decide) w_678 rfl
theorem k_133_40 : Ok M133 40 (oS (gKo (.int 27)) 42) := r_bipush (n := 27) (by decide +kernel) (by decide +kernel)
theorem k_133_42 : Ok M133 42 (oLI 1 43) := r_iload_n (j := 1) (by decide +kernel) rfl
theorem k_133_43 : Ok M133 43 (oS (gI2 f_iadd) 44) := r_iadd (by decide +kernel)
theorem k_133_44 : Ok M133 44 (oAI 45) := r_iaload (by decide +kernel)
theorem k_133_45 : Ok M133 45 (oRI) := r_ireturn rfl (by decide +kernel)
theorem k_133_46 : Ok M133 46 (oLA 0 47) := r_aload_n (j := 0) (by decide +kernel) rfl
theorem k_133_47 : Ok M133 47 (oGe 5 0 50) := r_get (idx := 7) (by decide +kernel) cd_5 0 (by decide) w_678 rfl
theorem k_133_50 : Ok M133 50 (oS (gKo (.int 8)) 52) := r_bipush (n := 8) (by decide +kernel) (by decide +kernel)
theorem k_133_52 : Ok M133 52 (oAI 53) := r_iaload (by decide +kernel)
theorem k_133_53 : Ok M133 53 (oLI 1 54) := r_iload_n (j := 1) (by decide +kernel) rfl
theorem k_133_54 : Ok M133 54 (oS (gI2 f_ishr) 55) := r_ishr (by decide +kernel)
theorem k_133_55 : Ok M133 55 (oS (gKo (.int 1)) 56) := r_iconst (n := 1) (by decide +kernel) (by decide +kernel)
theorem k_133_56 : Ok M133 56 (oS (gI2 f_iand) 57) := r_iand (by decide +kernel)
theorem k_133_57 : Ok M133 57 (oRI) := r_ireturn rfl (by decide +kernel)
theorem k_133_58 : Ok M133 58 (oLA 0 59) := r_aload_n (j := 0) (by decide +kernel) rfl
theorem k_133_59 : Ok M133 59 (oLI 1 60) := r_iload_n (j := 1) (by decide +kernel) rfl
theorem k_133_60 : Ok M133 60 (oCV 5 129 1) := r_callV (idx := 165) (by decide +kernel) w_881 cv_129
theorem k_133_63 : Ok M133 63 (oRI) := r_ireturn rfl (by decide +kernel)
theorem k_133_64 : Ok M133 64 (oLA 0 65) := r_aload_n (j := 0) (by decide +kernel) rfl
theorem k_133_65 : Ok M133 65 (oLI 1 66) := r_iload_n (j := 1) (by decide +kernel) rfl
theorem k_133_66 : Ok M133 66 (oS (gKo (.int 6)) 68) := r_bipush (n := 6) (by decide +kernel) (by decide +kernel)
theorem k_133_68 : Ok M133 68 (oCV 5 128 2) := r_callV (idx := 168) (by decide +kernel) w_889 cv_128
theorem k_133_71 : Ok M133 71 (oRI) := r_ireturn rfl (by decide +kernel)
theorem k_133_72 : Ok M133 72 (oLA 0 73) := r_aload_n (j := 0) (by decide +kernel) rfl
theorem k_133_73 : Ok M133 73 (oLI 1 74) := r_iload_n (j := 1) (by decide +kernel) rfl
theorem k_133_74 : Ok M133 74 (oLA 0 75) := r_aload_n (j := 0) (by decide +kernel) rfl
theorem k_133_75 : Ok M133 75 (oGe 5 0 78) := r_get (idx := 7) (by decide +kernel) cd_5 0 (by decide) w_678 rfl
theorem k_133_78 : Ok M133 78 (oS (gKo (.int 4)) 79) := r_iconst (n := 4) (by decide +kernel) (by decide +kernel)
theorem k_133_79 : Ok M133 79 (oAI 80) := r_iaload (by decide +kernel)
theorem k_133_80 : Ok M133 80 (oCV 5 128 2) := r_callV (idx := 168) (by decide +kernel) w_889 cv_128
theorem k_133_83 : Ok M133 83 (oRI) := r_ireturn rfl (by decide +kernel)
theorem k_133_84 : Ok M133 84 (oLA 0 85) := r_aload_n (j := 0) (by decide +kernel) rfl
theorem k_133_85 : Ok M133 85 (oLI 1 86) := r_iload_n (j := 1) (by decide +kernel) rfl
theorem k_133_86 : Ok M133 86 (oCV 5 130 1) := r_callV (idx := 171) (by decide +kernel) w_893 cv_130
theorem k_133_89 : Ok M133 89 (oRI) := r_ireturn rfl (by decide +kernel)
def B133_0 : List (Nat × aO) := [(0, oLI 2 1), (1, oTb [36, 46, 58, 64, 72] 84), (36, oLA 0 37), (37, oGe 5 0 40), (40, oS (gKo (.int 27)) 42), (42, oLI 1 43), (43, oS (gI2 f_iadd) 44), (44, oAI 45)]
theorem B133_0_ok : ∀ q ∈ B133_0, Ok M133 q.1 q.2 := List.forall_mem_cons.mpr ⟨k_133_0, List.forall_mem_cons.mpr ⟨k_133_1, List.forall_mem_cons.mpr ⟨k_133_36, List.forall_mem_cons.mpr ⟨k_133_37, List.forall_mem_cons.mpr ⟨k_133_40, List.forall_mem_cons.mpr ⟨k_133_42, List.forall_mem_cons.mpr ⟨k_133_43, List.forall_mem_cons.mpr ⟨k_133_44, fun _ h => absurd h List.not_mem_nil⟩⟩⟩⟩⟩⟩⟩⟩
def B133_1 : List (Nat × aO) := [(45, oRI), (46, oLA 0 47), (47, oGe 5 0 50), (50, oS (gKo (.int 8)) 52), (52, oAI 53), (53, oLI 1 54), (54, oS (gI2 f_ishr) 55), (55, oS (gKo (.int 1)) 56)]
theorem B133_1_ok : ∀ q ∈ B133_1, Ok M133 q.1 q.2 := List.forall_mem_cons.mpr ⟨k_133_45, List.forall_mem_cons.mpr ⟨k_133_46, List.forall_mem_cons.mpr ⟨k_133_47, List.forall_mem_cons.mpr ⟨k_133_50, List.forall_mem_cons.mpr ⟨k_133_52, List.forall_mem_cons.mpr ⟨k_133_53, List.forall_mem_cons.mpr ⟨k_133_54, List.forall_mem_cons.mpr ⟨k_133_55, fun _ h => absurd h List.not_mem_nil⟩⟩⟩⟩⟩⟩⟩⟩
def B133_2 : List (Nat × aO) := [(56, oS (gI2 f_iand) 57), (57, oRI), (58, oLA 0 59), (59, oLI 1 60), (60, oCV 5 129 1), (63, oRI), (64, oLA 0 65), (65, oLI 1 66)]
theorem B133_2_ok : ∀ q ∈ B133_2, Ok M133 q.1 q.2 := List.forall_mem_cons.mpr ⟨k_133_56, List.forall_mem_cons.mpr ⟨k_133_57, List.forall_mem_cons.mpr ⟨k_133_58, List.forall_mem_cons.mpr ⟨k_133_59, List.forall_mem_cons.mpr ⟨k_133_60, List.forall_mem_cons.mpr ⟨k_133_63, List.forall_mem_cons.mpr ⟨k_133_64, List.forall_mem_cons.mpr ⟨k_133_65, fun _ h => absurd h List.not_mem_nil⟩⟩⟩⟩⟩⟩⟩⟩
def B133_3 : List (Nat × aO) := [(66, oS (gKo (.int 6)) 68), (68, oCV 5 128 2), (71, oRI), (72, oLA 0 73), (73, oLI 1 74), (74, oLA 0 75), (75, oGe 5 0 78), (78, oS (gKo (.int 4)) 79)]
theorem B133_3_ok : ∀ q ∈ B133_3, Ok M133 q.1 q.2 := List.forall_mem_cons.mpr ⟨k_133_66, List.forall_mem_cons.mpr ⟨k_133_68, List.forall_mem_cons.mpr ⟨k_133_71, List.forall_mem_cons.mpr ⟨k_133_72, List.forall_mem_cons.mpr ⟨k_133_73, List.forall_mem_cons.mpr ⟨k_133_74, List.forall_mem_cons.mpr ⟨k_133_75, List.forall_mem_cons.mpr ⟨k_133_78, fun _ h => absurd h List.not_mem_nil⟩⟩⟩⟩⟩⟩⟩⟩
def B133_4 : List (Nat × aO) := [(79, oAI 80), (80, oCV 5 128 2), (83, oRI), (84, oLA 0 85), (85, oLI 1 86), (86, oCV 5 130 1), (89, oRI)]
theorem B133_4_ok : ∀ q ∈ B133_4, Ok M133 q.1 q.2 := List.forall_mem_cons.mpr ⟨k_133_79, List.forall_mem_cons.mpr ⟨k_133_80, List.forall_mem_cons.mpr ⟨k_133_83, List.forall_mem_cons.mpr ⟨k_133_84, List.forall_mem_cons.mpr ⟨k_133_85, List.forall_mem_cons.mpr ⟨k_133_86, List.forall_mem_cons.mpr ⟨k_133_89, fun _ h => absurd h List.not_mem_nil⟩⟩⟩⟩⟩⟩⟩
def P133 : List (Nat × List (Nat × aO)) := [(44, B133_0), (55, B133_1), (65, B133_2), (78, B133_3), (89, B133_4)]
theorem P133_ok : ∀ b ∈ P133, ∀ q ∈ b.2, Ok M133 q.1 q.2 := List.forall_mem_cons.mpr ⟨B133_0_ok, List.forall_mem_cons.mpr ⟨B133_1_ok, List.forall_mem_cons.mpr ⟨B133_2_ok, List.forall_mem_cons.mpr ⟨B133_3_ok, List.forall_mem_cons.mpr ⟨B133_4_ok, fun _ h => absurd h List.not_mem_nil⟩⟩⟩⟩⟩
theorem k_134_0 : Ok M134 0 (oLA 0 1) := r_aload_n (j := 0) (by decide +kernel) rfl
theorem k_134_1 : Ok M134 1 (oLI 1 2) := r_iload_n (j := 1) (by decide +kernel) rfl
theorem k_134_2 : Ok M134 2 (oCV 5 103 1) := r_callV (idx := 174) (by decide +kernel) w_872 cv_103
theorem k_134_5 : Ok M134 5 (oB1 b_if_eq q_eq 29 8) := r_if_eq (off := 24) (by decide +kernel) (by decide +kernel)
theorem k_134_8 : Ok M134 8 (oLI 2 9) := r_iload_n (j := 2) (by decide +kernel) rfl
theorem k_134_9 : Ok M134 9 (oS gIL 10) := r_i2l (by decide +kernel)
theorem k_134_10 : Ok M134 10 (oS (gKo (.long 0)) 11) := r_lconst (n := 0) (by decide +kernel) (by decide +kernel)
theorem k_134_11 : Ok M134 11 (oK (.long 5) 14) := r_ldc2 (i := 177) (by decide +kernel) w_876
theorem k_134_14 : Ok M134 14 (oCS 96 3) := r_callS (idx := 48) (by decide +kernel) w_744 cs_96
theorem k_134_17 : Ok M134 17 (oB1 b_if_eq q_eq 29 20) := r_if_eq (off := 12) (by decide +kernel) (by decide +kernel)
theorem k_134_20 : Ok M134 20 (oLA 0 21) := r_aload_n (j := 0) (by decide +kernel) rfl
theorem k_134_21 : Ok M134 21 (oLI 1 22) := r_iload_n (j := 1) (by decide +kernel) rfl
theorem k_134_22 : Ok M134 22 (oLI 2 23) := r_iload_n (j := 2) (by decide +kernel) rfl
theorem k_134_23 : Ok M134 23 (oCV 5 133 2) := r_callV (idx := 179) (by decide +kernel) w_877 cv_133
theorem k_134_26 : Ok M134 26 (oGo 35) := r_goto (off := 9) (by decide +kernel) (by decide +kernel)
theorem k_134_29 : Ok M134 29 (oLA 0 30) := r_aload_n (j := 0) (by decide +kernel) rfl
theorem k_134_30 : Ok M134 30 (oS (gKo (.int (-2))) 32) := r_bipush (n := (-2)) (by decide +kernel) (by decide +kernel)
theorem k_134_32 : Ok M134 32 (oCV 5 99 1) := r_callV (idx := 54) (by decide +kernel) w_747 cv_99
theorem k_134_35 : Ok M134 35 (oRI) := r_ireturn rfl (by decide +kernel)
def B134_0 : List (Nat × aO) := [(0, oLA 0 1), (1, oLI 1 2), (2, oCV 5 103 1), (5, oB1 b_if_eq q_eq 29 8), (8, oLI 2 9), (9, oS gIL 10), (10, oS (gKo (.long 0)) 11), (11, oK (.long 5) 14)]
theorem B134_0_ok : ∀ q ∈ B134_0, Ok M134 q.1 q.2 := List.forall_mem_cons.mpr ⟨k_134_0, List.forall_mem_cons.mpr ⟨k_134_1, List.forall_mem_cons.mpr ⟨k_134_2, List.forall_mem_cons.mpr ⟨k_134_5, List.forall_mem_cons.mpr ⟨k_134_8, List.forall_mem_cons.mpr ⟨k_134_9, List.forall_mem_cons.mpr ⟨k_134_10, List.forall_mem_cons.mpr ⟨k_134_11, fun _ h => absurd h List.not_mem_nil⟩⟩⟩⟩⟩⟩⟩⟩
def B134_1 : List (Nat × aO) := [(14, oCS 96 3), (17, oB1 b_if_eq q_eq 29 20), (20, oLA 0 21), (21, oLI 1 22), (22, oLI 2 23), (23, oCV 5 133 2), (26, oGo 35), (29, oLA 0 30)]
theorem B134_1_ok : ∀ q ∈ B134_1, Ok M134 q.1 q.2 := List.forall_mem_cons.mpr ⟨k_134_14, List.forall_mem_cons.mpr ⟨k_134_17, List.forall_mem_cons.mpr ⟨k_134_20, List.forall_mem_cons.mpr ⟨k_134_21, List.forall_mem_cons.mpr ⟨k_134_22, List.forall_mem_cons.mpr ⟨k_134_23, List.forall_mem_cons.mpr ⟨k_134_26, List.forall_mem_cons.mpr ⟨k_134_29, fun _ h => absurd h List.not_mem_nil⟩⟩⟩⟩⟩⟩⟩⟩
def B134_2 : List (Nat × aO) := [(30, oS (gKo (.int (-2))) 32), (32, oCV 5 99 1), (35, oRI)]
theorem B134_2_ok : ∀ q ∈ B134_2, Ok M134 q.1 q.2 := List.forall_mem_cons.mpr ⟨k_134_30, List.forall_mem_cons.mpr ⟨k_134_32, List.forall_mem_cons.mpr ⟨k_134_35, fun _ h => absurd h List.not_mem_nil⟩⟩⟩
def P134 : List (Nat × List (Nat × aO)) := [(11, B134_0), (29, B134_1), (35, B134_2)]
theorem P134_ok : ∀ b ∈ P134, ∀ q ∈ b.2, Ok M134 q.1 q.2 := List.forall_mem_cons.mpr ⟨B134_0_ok, List.forall_mem_cons.mpr ⟨B134_1_ok, List.forall_mem_cons.mpr ⟨B134_2_ok, fun _ h => absurd h List.not_mem_nil⟩⟩⟩
theorem k_135_0 : Ok M135 0 (oLA 0 1) := r_aload_n (j := 0) (by decide +kernel) rfl
theorem k_135_1 : Ok M135 1 (oLI 1 2) := r_iload_n (j := 1) (by decide +kernel) rfl
theorem k_135_2 : Ok M135 2 (oCV 5 103 1) := r_callV (idx := 174) (by decide +kernel) w_872 cv_103
theorem k_135_5 : Ok M135 5 (oB1 b_if_eq q_eq 25 8) := r_if_eq (off := 20) (by decide +kernel) (by decide +kernel)
theorem k_135_8 : Ok M135 8 (oLA 0 9) := r_aload_n (j := 0) (by decide +kernel) rfl
theorem k_135_9 : Ok M135 9 (oLI 2 10) := r_iload_n (j := 2) (by decide +kernel) rfl
theorem k_135_10 : Ok M135 10 (oCV 5 102 1) := r_callV (idx := 159) (by decide +kernel) w_860 cv_102
theorem k_135_13 : Ok M135 13 (oB1 b_if_eq q_eq 25 16) := r_if_eq (off := 12) (by decide +kernel) (by decide +kernel)
theorem k_135_16 : Ok M135 16 (oLA 0 17) := r_aload_n (j := 0) (by decide +kernel) rfl
theorem k_135_17 : Ok M135 17 (oLI 1 18) := r_iload_n (j := 1) (by decide +kernel) rfl
theorem k_135_18 : Ok M135 18 (oLI 2 19) := r_iload_n (j := 2) (by decide +kernel) rfl
theorem k_135_19 : Ok M135 19 (oCV 5 104 2) := r_callV (idx := 155) (by decide +kernel) w_885 cv_104
theorem k_135_22 : Ok M135 22 (oGo 31) := r_goto (off := 9) (by decide +kernel) (by decide +kernel)
theorem k_135_25 : Ok M135 25 (oLA 0 26) := r_aload_n (j := 0) (by decide +kernel) rfl
theorem k_135_26 : Ok M135 26 (oS (gKo (.int (-2))) 28) := r_bipush (n := (-2)) (by decide +kernel) (by decide +kernel)
theorem k_135_28 : Ok M135 28 (oCV 5 99 1) := r_callV (idx := 54) (by decide +kernel) w_747 cv_99
theorem k_135_31 : Ok M135 31 (oRI) := r_ireturn rfl (by decide +kernel)
def B135_0 : List (Nat × aO) := [(0, oLA 0 1), (1, oLI 1 2), (2, oCV 5 103 1), (5, oB1 b_if_eq q_eq 25 8), (8, oLA 0 9), (9, oLI 2 10), (10, oCV 5 102 1), (13, oB1 b_if_eq q_eq 25 16)]
theorem B135_0_ok : ∀ q ∈ B135_0, Ok M135 q.1 q.2 := List.forall_mem_cons.mpr ⟨k_135_0, List.forall_mem_cons.mpr ⟨k_135_1, List.forall_mem_cons.mpr ⟨k_135_2, List.forall_mem_cons.mpr ⟨k_135_5, List.forall_mem_cons.mpr ⟨k_135_8, List.forall_mem_cons.mpr ⟨k_135_9, List.forall_mem_cons.mpr ⟨k_135_10, List.forall_mem_cons.mpr ⟨k_135_13, fun _ h => absurd h List.not_mem_nil⟩⟩⟩⟩⟩⟩⟩⟩
def B135_1 : List (Nat × aO) := [(16, oLA 0 17), (17, oLI 1 18), (18, oLI 2 19), (19, oCV 5 104 2), (22, oGo 31), (25, oLA 0 26), (26, oS (gKo (.int (-2))) 28), (28, oCV 5 99 1)]
theorem B135_1_ok : ∀ q ∈ B135_1, Ok M135 q.1 q.2 := List.forall_mem_cons.mpr ⟨k_135_16, List.forall_mem_cons.mpr ⟨k_135_17, List.forall_mem_cons.mpr ⟨k_135_18, List.forall_mem_cons.mpr ⟨k_135_19, List.forall_mem_cons.mpr ⟨k_135_22, List.forall_mem_cons.mpr ⟨k_135_25, List.forall_mem_cons.mpr ⟨k_135_26, List.forall_mem_cons.mpr ⟨k_135_28, fun _ h => absurd h List.not_mem_nil⟩⟩⟩⟩⟩⟩⟩⟩
def B135_2 : List (Nat × aO) := [(31, oRI)]
theorem B135_2_ok : ∀ q ∈ B135_2, Ok M135 q.1 q.2 := List.forall_mem_cons.mpr ⟨k_135_31, fun _ h => absurd h List.not_mem_nil⟩
def P135 : List (Nat × List (Nat × aO)) := [(13, B135_0), (28, B135_1), (31, B135_2)]
theorem P135_ok : ∀ b ∈ P135, ∀ q ∈ b.2, Ok M135 q.1 q.2 := List.forall_mem_cons.mpr ⟨B135_0_ok, List.forall_mem_cons.mpr ⟨B135_1_ok, List.forall_mem_cons.mpr ⟨B135_2_ok, fun _ h => absurd h List.not_mem_nil⟩⟩⟩
theorem k_136_0 : Ok M136 0 (oLA 0 1) := r_aload_n (j := 0) (by decide +kernel) rfl
theorem k_136_1 : Ok M136 1 (oLI 1 2) := r_iload_n (j := 1) (by decide +kernel) rfl
theorem k_136_2 : Ok M136 2 (oCV 5 103 1) := r_callV (idx := 174) (by decide +kernel) w_872 cv_103
theorem k_136_5 : Ok M136 5 (oB1 b_if_eq q_eq 28 8) := r_if_eq (off := 23) (by decide +kernel) (by decide +kernel)
theorem k_136_8 : Ok M136 8 (oLA 0 9) := r_aload_n (j := 0) (by decide +kernel) rfl
theorem k_136_9 : Ok M136 9 (oLI 2 10) := r_iload_n (j := 2) (by decide +kernel) rfl
theorem k_136_10 : Ok M136 10 (oCV 5 102 1) := r_callV (idx := 159) (by decide +kernel) w_860 cv_102
theorem k_136_13 : Ok M136 13 (oB1 b_if_eq q_eq 28 16) := r_if_eq (off := 15) (by decide +kernel) (by decide +kernel)
theorem k_136_16 : Ok M136 16 (oLI 3 17) := r_iload_n (j := 3) (by decide +kernel) rfl
theorem k_136_17 : Ok M136 17 (oS gIL 18) := r_i2l (by decide +kernel)
theorem k_136_18 : Ok M136 18 (oS (gKo (.long 0)) 19) := r_lconst (n := 0) (by decide +kernel) (by decide +kernel)
theorem k_136_19 : Ok M136 19 (oK (.long 99) 22) := r_ldc2 (i := 182) (by decide +kernel) w_905
theorem k_136_22 : Ok M136 22 (oCS 96 3) := r_callS (idx := 48) (by decide +kernel) w_744 cs_96
theorem k_136_25 : Ok M136 25 (oB1 b_if_ne q_ne 35 28) := r_if_ne (off := 10) (by decide +kernel) (by decide +kernel)
theorem k_136_28 : Ok M136 28 (oLA 0 29) := r_aload_n (j := 0) (by decide +kernel) rfl
theorem k_136_29 : Ok M136 29 (oS (gKo (.int (-2))) 31) := r_bipush (n := (-2)) (by decide +kernel) (by decide +kernel)
theorem k_136_31 : Ok M136 31 (oCV 5 99 1) := r_callV (idx := 54) (by decide +kernel) w_747 cv_99
theorem k_136_34 : Ok M136 34 (oRI) := r_ireturn rfl (by decide +kernel)
theorem k_136_35 : Ok M136 35 (oLA 0 36) := r_aload_n (j := 0) (by decide +kernel) rfl
theorem k_136_36 : Ok M136 36 (oLI 1 37) := r_iload_n (j := 1) (by decide +kernel) rfl
theorem k_136_37 : Ok M136 37 (oLI 2 38) := r_iload_n (j := 2) (by decide +kernel) rfl
theorem k_136_38 : Ok M136 38 (oCV 5 104 2) := r_callV (idx := 155) (by decide +kernel) w_885 cv_104
theorem k_136_41 : Ok M136 41 (oSI 4 5 43) := r_istore (by decide +kernel)
theorem k_136_43 : Ok M136 43 (oLI 4 45) := r_iload (by decide +kernel)
theorem k_136_45 : Ok M136 45 (oLI 3 46) := r_iload_n (j := 3) (by decide +kernel) rfl
theorem k_136_46 : Ok M136 46 (oB2 b_icmp_ne q_ne 56 49) := r_icmp_ne (off := 10) (by decide +kernel) (by decide +kernel)
theorem k_136_49 : Ok M136 49 (oLA 0 50) := r_aload_n (j := 0) (by decide +kernel) rfl
theorem k_136_50 : Ok M136 50 (oS (gKo (.int (-3))) 52) := r_bipush (n := (-3)) (by decide +kernel) (by decide +kernel)
theorem k_136_52 : Ok M136 52 (oCV 5 99 1) := r_callV (idx := 54) (by decide +kernel) w_747 cv_99
theorem k_136_55 : Ok M136 55 (oRI) := r_ireturn rfl (by decide +kernel)
theorem k_136_56 : Ok M136 56 (oLA 0 57) := r_aload_n (j := 0) (by decide +kernel) rfl
theorem k_136_57 : Ok M136 57 (oCV 5 101 0) := r_callV (idx := 135) (by decide +kernel) w_823 cv_101
theorem k_136_60 : Ok M136 60 (oLA 0 61) := r_aload_n (j := 0) (by decide +kernel) rfl
theorem k_136_61 : Ok M136 61 (oGe 5 0 64) := r_get (idx := 7) (by decide +kernel) cd_5 0 (by decide) w_678 rfl
theorem k_136_64 : Ok M136 64 (oS (gKo (.int 31)) 66) := r_bipush (n := 31) (by decide +kernel) (by decide +kernel)
theorem k_136_66 : Ok M136 66 (oS (gKo (.int 6)) 68) := r_bipush (n := 6) (by decide +kernel) (by decide +kernel)
theorem k_136_68 : Ok M136 68 (oLI 1 69) := r_iload_n (j := 1) (by decide +kernel) rfl
theorem k_136_69 : Ok M136 69 (oS (gI2 f_imul) 70) := r_imul (by decide +kernel)
theorem k_136_70 : Ok M136 70 (oS (gI2 f_iadd) 71) := r_iadd (by decide +kernel)
theorem k_136_71 : Ok M136 71 (oLI 2 72) := r_iload_n (j := 2) (by decide +kernel) rfl
theorem k_136_72 : Ok M136 72 (oS (gI2 f_iadd) 73) := r_iadd (by decide +kernel)
theorem k_136_73 : Ok M136 73 (oLI 3 74) := r_iload_n (j := 3) (by decide +kernel) rfl
theorem k_136_74 : Ok M136 74 (oAT 75) := r_iastore (by decide +kernel)
theorem k_136_75 : Ok M136 75 (oLA 0 76) := r_aload_n (j := 0) (by decide +kernel) rfl
theorem k_136_76 : Ok M136 76 (oCV 5 118 0) := r_callV (idx := 126) (by decide +kernel) w_815 cv_118
theorem k_136_79 : Ok M136 79 (oLI 4 81) := r_iload (by decide +kernel)
theorem k_136_81 : Ok M136 81 (oRI) := r_ireturn rfl (by decide +kernel)
def B136_0 : List (Nat × aO) := [(0, oLA 0 1), (1, oLI 1 2), (2, oCV 5 103 1), (5, oB1 b_if_eq q_eq 28 8), (8, oLA 0 9), (9, oLI 2 10), (10, oCV 5 102 1), (13, oB1 b_if_eq q_eq 28 16)]
theorem B136_0_ok : ∀ q ∈ B136_0, Ok M136 q.1 q.2 := List.forall_mem_cons.mpr ⟨k_136_0, List.forall_mem_cons.mpr ⟨k_136_1, List.forall_mem_cons.mpr ⟨k_136_2, List.forall_mem_cons.mpr ⟨k_136_5, List.forall_mem_cons.mpr ⟨k_136_8, List.forall_mem_cons.mpr ⟨k_136_9, List.forall_mem_cons.mpr ⟨k_136_10, List.forall_mem_cons.mpr ⟨k_136_13, fun _ h => absurd h List.not_mem_nil⟩⟩⟩⟩⟩⟩⟩⟩
def B136_1 : List (Nat × aO) := [(16, oLI 3 17), (17, oS gIL 18), (18, oS (gKo (.long 0)) 19), (19, oK (.long 99) 22), (22, oCS 96 3), (25, oB1 b_if_ne q_ne 35 28), (28, oLA 0 29), (29, oS (gKo (.int (-2))) 31)]
theorem B136_1_ok : ∀ q ∈ B136_1, Ok M136 q.1 q.2 := List.forall_mem_cons.mpr ⟨k_136_16, List.forall_mem_cons.mpr ⟨k_136_17, List.forall_mem_cons.mpr ⟨k_136_18, List.forall_mem_cons.mpr ⟨k_136_19, List.forall_mem_cons.mpr ⟨k_136_22, List.forall_mem_cons.mpr ⟨k_136_25, List.forall_mem_cons.mpr ⟨k_136_28, List.forall_mem_cons.mpr ⟨k_136_29, fun _ h => absurd h List.not_mem_nil⟩⟩⟩⟩⟩⟩⟩⟩
def B136_2 : List (Nat × aO) := [(31, oCV 5 99 1), (34, oRI), (35, oLA 0 36), (36, oLI 1 37), (37, oLI 2 38), (38, oCV 5 104 2), (41, oSI 4 5 43), (43, oLI 4 45)]
theorem B136_2_ok : ∀ q ∈ B136_2, Ok M136 q.1 q.2 := List.forall_mem_cons.mpr ⟨k_136_31, List.forall_mem_cons.mpr ⟨k_136_34, List.forall_mem_cons.mpr ⟨k_136_35, List.forall_mem_cons.mpr ⟨k_136_36, List.forall_mem_cons.mpr ⟨k_136_37, List.forall_mem_cons.mpr ⟨k_136_38, List.forall_mem_cons.mpr ⟨k_136_41, List.forall_mem_cons.mpr ⟨k_136_43, fun _ h => absurd h List.not_mem_nil⟩⟩⟩⟩⟩⟩⟩⟩
def B136_3 : List (Nat × aO) := [(45, oLI 3 46), (46, oB2 b_icmp_ne q_ne 56 49), (49, oLA 0 50), (50, oS (gKo (.int (-3))) 52), (52, oCV 5 99 1), (55, oRI), (56, oLA 0 57), (57, oCV 5 101 0)]
theorem B136_3_ok : ∀ q ∈ B136_3, Ok M136 q.1 q.2 := List.forall_mem_cons.mpr ⟨k_136_45, List.forall_mem_cons.mpr ⟨k_136_46, List.forall_mem_cons.mpr ⟨k_136_49, List.forall_mem_cons.mpr ⟨k_136_50, List.forall_mem_cons.mpr ⟨k_136_52, List.forall_mem_cons.mpr ⟨k_136_55, List.forall_mem_cons.mpr ⟨k_136_56, List.forall_mem_cons.mpr ⟨k_136_57, fun _ h => absurd h List.not_mem_nil⟩⟩⟩⟩⟩⟩⟩⟩
def B136_4 : List (Nat × aO) := [(60, oLA 0 61), (61, oGe 5 0 64), (64, oS (gKo (.int 31)) 66), (66, oS (gKo (.int 6)) 68), (68, oLI 1 69), (69, oS (gI2 f_imul) 70), (70, oS (gI2 f_iadd) 71), (71, oLI 2 72)]
theorem B136_4_ok : ∀ q ∈ B136_4, Ok M136 q.1 q.2 := List.forall_mem_cons.mpr ⟨k_136_60, List.forall_mem_cons.mpr ⟨k_136_61, List.forall_mem_cons.mpr ⟨k_136_64, List.forall_mem_cons.mpr ⟨k_136_66, List.forall_mem_cons.mpr ⟨k_136_68, List.forall_mem_cons.mpr ⟨k_136_69, List.forall_mem_cons.mpr ⟨k_136_70, List.forall_mem_cons.mpr ⟨k_136_71, fun _ h => absurd h List.not_mem_nil⟩⟩⟩⟩⟩⟩⟩⟩
def B136_5 : List (Nat × aO) := [(72, oS (gI2 f_iadd) 73), (73, oLI 3 74), (74, oAT 75), (75, oLA 0 76), (76, oCV 5 118 0), (79, oLI 4 81), (81, oRI)]
theorem B136_5_ok : ∀ q ∈ B136_5, Ok M136 q.1 q.2 := List.forall_mem_cons.mpr ⟨k_136_72, List.forall_mem_cons.mpr ⟨k_136_73, List.forall_mem_cons.mpr ⟨k_136_74, List.forall_mem_cons.mpr ⟨k_136_75, List.forall_mem_cons.mpr ⟨k_136_76, List.forall_mem_cons.mpr ⟨k_136_79, List.forall_mem_cons.mpr ⟨k_136_81, fun _ h => absurd h List.not_mem_nil⟩⟩⟩⟩⟩⟩⟩
def P136 : List (Nat × List (Nat × aO)) := [(13, B136_0), (29, B136_1), (43, B136_2), (57, B136_3), (71, B136_4), (81, B136_5)]
theorem P136_ok : ∀ b ∈ P136, ∀ q ∈ b.2, Ok M136 q.1 q.2 := List.forall_mem_cons.mpr ⟨B136_0_ok, List.forall_mem_cons.mpr ⟨B136_1_ok, List.forall_mem_cons.mpr ⟨B136_2_ok, List.forall_mem_cons.mpr ⟨B136_3_ok, List.forall_mem_cons.mpr ⟨B136_4_ok, List.forall_mem_cons.mpr ⟨B136_5_ok, fun _ h => absurd h List.not_mem_nil⟩⟩⟩⟩⟩⟩
theorem k_137_0 : Ok M137 0 (oLA 0 1) := r_aload_n (j := 0) (by decide +kernel) rfl
theorem k_137_1 : Ok M137 1 (oLI 1 2) := r_iload_n (j := 1) (by decide +kernel) rfl
theorem k_137_2 : Ok M137 2 (oCV 5 103 1) := r_callV (idx := 174) (by decide +kernel) w_872 cv_103
theorem k_137_5 : Ok M137 5 (oB1 b_if_eq q_eq 20 8) := r_if_eq (off := 15) (by decide +kernel) (by decide +kernel)
theorem k_137_8 : Ok M137 8 (oLI 2 9) := r_iload_n (j := 2) (by decide +kernel) rfl
theorem k_137_9 : Ok M137 9 (oS gIL 10) := r_i2l (by decide +kernel)
theorem k_137_10 : Ok M137 10 (oS (gKo (.long 1)) 11) := r_lconst (n := 1) (by decide +kernel) (by decide +kernel)
theorem k_137_11 : Ok M137 11 (oK (.long 999) 14) := r_ldc2 (i := 184) (by decide +kernel) w_910
theorem k_137_14 : Ok M137 14 (oCS 96 3) := r_callS (idx := 48) (by decide +kernel) w_744 cs_96
theorem k_137_17 : Ok M137 17 (oB1 b_if_ne q_ne 27 20) := r_if_ne (off := 10) (by decide +kernel) (by decide +kernel)
theorem k_137_20 : Ok M137 20 (oLA 0 21) := r_aload_n (j := 0) (by decide +kernel) rfl
theorem k_137_21 : Ok M137 21 (oS (gKo (.int (-2))) 23) := r_bipush (n := (-2)) (by decide +kernel) (by decide +kernel)
theorem k_137_23 : Ok M137 23 (oCV 5 99 1) := r_callV (idx := 54) (by decide +kernel) w_747 cv_99
theorem k_137_26 : Ok M137 26 (oRI) := r_ireturn rfl (by decide +kernel)
theorem k_137_27 : Ok M137 27 (oLA 0 28) := r_aload_n (j := 0) (by decide +kernel) rfl
theorem k_137_28 : Ok M137 28 (oGe 5 0 31) := r_get (idx := 7) (by decide +kernel) cd_5 0 (by decide) w_678 rfl
theorem k_137_31 : Ok M137 31 (oS (gKo (.int 27)) 33) := r_bipush (n := 27) (by decide +kernel) (by decide +kernel)
theorem k_137_33 : Ok M137 33 (oLI 1 34) := r_iload_n (j := 1) (by decide +kernel) rfl
theorem k_137_34 : Ok M137 34 (oS (gI2 f_iadd) 35) := r_iadd (by decide +kernel)
theorem k_137_35 : Ok M137 35 (oAI 36) := r_iaload (by decide +kernel)
theorem k_137_36 : Ok M137 36 (oSI 3 4 37) := r_istore_n (j := 3) (by decide +kernel) rfl
theorem k_137_37 : Ok M137 37 (oLI 3 38) := r_iload_n (j := 3) (by decide +kernel) rfl
theorem k_137_38 : Ok M137 38 (oLI 2 39) := r_iload_n (j := 2) (by decide +kernel) rfl
theorem k_137_39 : Ok M137 39 (oB2 b_icmp_ne q_ne 49 42) := r_icmp_ne (off := 10) (by decide +kernel) (by decide +kernel)
theorem k_137_42 : Ok M137 42 (oLA 0 43) := r_aload_n (j := 0) (by decide +kernel) rfl
theorem k_137_43 : Ok M137 43 (oS (gKo (.int (-3))) 45) := r_bipush (n := (-3)) (by decide +kernel) (by decide +kernel)
theorem k_137_45 : Ok M137 45 (oCV 5 99 1) := r_callV (idx := 54) (by decide +kernel) w_747 cv_99
theorem k_137_48 : Ok M137 48 (oRI) := r_ireturn rfl (by decide +kernel)
theorem k_137_49 : Ok M137 49 (oLA 0 50) := r_aload_n (j := 0) (by decide +kernel) rfl
theorem k_137_50 : Ok M137 50 (oCV 5 101 0) := r_callV (idx := 135) (by decide +kernel) w_823 cv_101
theorem k_137_53 : Ok M137 53 (oLA 0 54) := r_aload_n (j := 0) (by decide +kernel) rfl
theorem k_137_54 : Ok M137 54 (oGe 5 0 57) := r_get (idx := 7) (by decide +kernel) cd_5 0 (by decide) w_678 rfl
theorem k_137_57 : Ok M137 57 (oS (gKo (.int 27)) 59) := r_bipush (n := 27) (by decide +kernel) (by decide +kernel)
theorem k_137_59 : Ok M137 59 (oLI 1 60) := r_iload_n (j := 1) (by decide +kernel) rfl
theorem k_137_60 : Ok M137 60 (oS (gI2 f_iadd) 61) := r_iadd (by decide +kernel)
theorem k_137_61 : Ok M137 61 (oLI 2 62) := r_iload_n (j := 2) (by decide +kernel) rfl
theorem k_137_62 : Ok M137 62 (oAT 63) := r_iastore (by decide +kernel)
theorem k_137_63 : Ok M137 63 (oLA 0 64) := r_aload_n (j := 0) (by decide +kernel) rfl
theorem k_137_64 : Ok M137 64 (oCV 5 118 0) := r_callV (idx := 126) (by decide +kernel) w_815 cv_118
theorem k_137_67 : Ok M137 67 (oLI 3 68) := r_iload_n (j := 3) (by decide +kernel) rfl
theorem k_137_68 : Ok M137 68 (oRI) := r_ireturn rfl (by decide +kernel)
def B137_0 : List (Nat × aO) := [(0, oLA 0 1), (1, oLI 1 2), (2, oCV 5 103 1), (5, oB1 b_if_eq q_eq 20 8), (8, oLI 2 9), (9, oS gIL 10), (10, oS (gKo (.long 1)) 11), (11, oK (.long 999) 14)]
theorem B137_0_ok : ∀ q ∈ B137_0, Ok M137 q.1 q.2 := List.forall_mem_cons.mpr ⟨k_137_0, List.forall_mem_cons.mpr ⟨k_137_1, List.forall_mem_cons.mpr ⟨k_137_2, List.forall_mem_cons.mpr ⟨k_137_5, List.forall_mem_cons.mpr ⟨k_137_8, List.forall_mem_cons.mpr ⟨k_137_9, List.forall_mem_cons.mpr ⟨k_137_10, List.forall_mem_cons.mpr ⟨k_137_11, fun _ h => absurd h List.not_mem_nil⟩⟩⟩⟩⟩⟩⟩⟩
def B137_1 : List (Nat × aO) := [(14, oCS 96 3), (17, oB1 b_if_ne q_ne 27 20), (20, oLA 0 21), (21, oS (gKo (.int (-2))) 23), (23, oCV 5 99 1), (26, oRI), (27, oLA 0 28), (28, oGe 5 0 31)]
theorem B137_1_ok : ∀ q ∈ B137_1, Ok M137 q.1 q.2 := List.forall_mem_cons.mpr ⟨k_137_14, List.forall_mem_cons.mpr ⟨k_137_17, List.forall_mem_cons.mpr ⟨k_137_20, List.forall_mem_cons.mpr ⟨k_137_21, List.forall_mem_cons.mpr ⟨k_137_23, List.forall_mem_cons.mpr ⟨k_137_26, List.forall_mem_cons.mpr ⟨k_137_27, List.forall_mem_cons.mpr ⟨k_137_28, fun _ h => absurd h List.not_mem_nil⟩⟩⟩⟩⟩⟩⟩⟩
def B137_2 : List (Nat × aO) := [(31, oS (gKo (.int 27)) 33), (33, oLI 1 34), (34, oS (gI2 f_iadd) 35), (35, oAI 36), (36, oSI 3 4 37), (37, oLI 3 38), (38, oLI 2 39), (39, oB2 b_icmp_ne q_ne 49 42)]
theorem B137_2_ok : ∀ q ∈ B137_2, Ok M137 q.1 q.2 := List.forall_mem_cons.mpr ⟨k_137_31, List.forall_mem_cons.mpr ⟨k_137_33, List.forall_mem_cons.mpr ⟨k_137_34, List.forall_mem_cons.mpr ⟨k_137_35, List.forall_mem_cons.mpr ⟨k_137_36, List.forall_mem_cons.mpr ⟨k_137_37, List.forall_mem_cons.mpr ⟨k_137_38, List.forall_mem_cons.mpr ⟨k_137_39, fun _ h => absurd h List.not_mem_nil⟩⟩⟩⟩⟩⟩⟩⟩
def B137_3 : List (Nat × aO) := [(42, oLA 0 43), (43, oS (gKo (.int (-3))) 45), (45, oCV 5 99 1), (48, oRI), (49, oLA 0 50), (50, oCV 5 101 0), (53, oLA 0 54), (54, oGe 5 0 57)]
theorem B137_3_ok : ∀ q ∈ B137_3, Ok M137 q.1 q.2 := List.forall_mem_cons.mpr ⟨k_137_42, List.forall_mem_cons.mpr ⟨k_137_43, List.forall_mem_cons.mpr ⟨k_137_45, List.forall_mem_cons.mpr ⟨k_137_48, List.forall_mem_cons.mpr ⟨k_137_49, List.forall_mem_cons.mpr ⟨k_137_50, List.forall_mem_cons.mpr ⟨k_137_53, List.forall_mem_cons.mpr ⟨k_137_54, fun _ h => absurd h List.not_mem_nil⟩⟩⟩⟩⟩⟩⟩⟩
def B137_4 : List (Nat × aO) := [(57, oS (gKo (.int 27)) 59), (59, oLI 1 60), (60, oS (gI2 f_iadd) 61), (61, oLI 2 62), (62, oAT 63), (63, oLA 0 64), (64, oCV 5 118 0), (67, oLI 3 68)]
theorem B137_4_ok : ∀ q ∈ B137_4, Ok M137 q.1 q.2 := List.forall_mem_cons.mpr ⟨k_137_57, List.forall_mem_cons.mpr ⟨k_137_59, List.forall_mem_cons.mpr ⟨k_137_60, List.forall_mem_cons.mpr ⟨k_137_61, List.forall_mem_cons.mpr ⟨k_137_62, List.forall_mem_cons.mpr ⟨k_137_63, List.forall_mem_cons.mpr ⟨k_137_64, List.forall_mem_cons.mpr ⟨k_137_67, fun _ h => absurd h List.not_mem_nil⟩⟩⟩⟩⟩⟩⟩⟩
def B137_5 : List (Nat × aO) := [(68, oRI)]
theorem B137_5_ok : ∀ q ∈ B137_5, Ok M137 q.1 q.2 := List.forall_mem_cons.mpr ⟨k_137_68, fun _ h => absurd h List.not_mem_nil⟩
def P137 : List (Nat × List (Nat × aO)) := [(11, B137_0), (28, B137_1), (39, B137_2), (54, B137_3), (67, B137_4), (68, B137_5)]
theorem P137_ok : ∀ b ∈ P137, ∀ q ∈ b.2, Ok M137 q.1 q.2 := List.forall_mem_cons.mpr ⟨B137_0_ok, List.forall_mem_cons.mpr ⟨B137_1_ok, List.forall_mem_cons.mpr ⟨B137_2_ok, List.forall_mem_cons.mpr ⟨B137_3_ok, List.forall_mem_cons.mpr ⟨B137_4_ok, List.forall_mem_cons.mpr ⟨B137_5_ok, fun _ h => absurd h List.not_mem_nil⟩⟩⟩⟩⟩⟩
theorem k_138_0 : Ok M138 0 (oLI 1 1) := r_iload_n (j := 1) (by decide +kernel) rfl
theorem k_138_1 : Ok M138 1 (oS gIL 2) := r_i2l (by decide +kernel)
theorem k_138_2 : Ok M138 2 (oS (gKo (.long 0)) 3) := r_lconst (n := 0) (by decide +kernel) (by decide +kernel)
theorem k_138_3 : Ok M138 3 (oK (.long 4) 6) := r_ldc2 (i := 186) (by decide +kernel) w_915
theorem k_138_6 : Ok M138 6 (oCS 96 3) := r_callS (idx := 48) (by decide +kernel) w_744 cs_96
theorem k_138_9 : Ok M138 9 (oB1 b_if_ne q_ne 19 12) := r_if_ne (off := 10) (by decide +kernel) (by decide +kernel)
theorem k_138_12 : Ok M138 12 (oLA 0 13) := r_aload_n (j := 0) (by decide +kernel) rfl
theorem k_138_13 : Ok M138 13 (oS (gKo (.int (-2))) 15) := r_bipush (n := (-2)) (by decide +kernel) (by decide +kernel)
theorem k_138_15 : Ok M138 15 (oCV 5 99 1) := r_callV (idx := 54) (by decide +kernel) w_747 cv_99
theorem k_138_18 : Ok M138 18 (oRI) := r_ireturn rfl (by decide +kernel)
theorem k_138_19 : Ok M138 19 (oLA 0 20) := r_aload_n (j := 0) (by decide +kernel) rfl
theorem k_138_20 : Ok M138 20 (oGe 5 0 23) := r_get (idx := 7) (by decide +kernel) cd_5 0 (by decide) w_678 rfl
theorem k_138_23 : Ok M138 23 (oS (gKo (.int 2)) 24) := r_iconst (n := 2) (by decide +kernel) (by decide +kernel)
theorem k_138_24 : Ok M138 24 (oAI 25) := r_iaload (by decide +kernel)
theorem k_138_25 : Ok M138 25 (oSI 2 3 26) := r_istore_n (j := 2) (by decide +kernel) rfl
theorem k_138_26 : Ok M138 26 (oLI 2 27) := r_iload_n (j := 2) (by decide +kernel) rfl
theorem k_138_27 : Ok M138 27 (oLI 1 28) := r_iload_n (j := 1) (by decide +kernel) rfl
theorem k_138_28 : Ok M138 28 (oB2 b_icmp_ne q_ne 38 31) := r_icmp_ne (off := 10) (by decide +kernel) (by decide +kernel)
theorem k_138_31 : Ok M138 31 (oLA 0 32) := r_aload_n (j := 0) (by decide +kernel) rfl
theorem k_138_32 : Ok M138 32 (oS (gKo (.int (-3))) 34) := r_bipush (n := (-3)) (by decide +kernel) (by decide +kernel)
theorem k_138_34 : Ok M138 34 (oCV 5 99 1) := r_callV (idx := 54) (by decide +kernel) w_747 cv_99
theorem k_138_37 : Ok M138 37 (oRI) := r_ireturn rfl (by decide +kernel)
theorem k_138_38 : Ok M138 38 (oLA 0 39) := r_aload_n (j := 0) (by decide +kernel) rfl
theorem k_138_39 : Ok M138 39 (oCV 5 101 0) := r_callV (idx := 135) (by decide +kernel) w_823 cv_101
theorem k_138_42 : Ok M138 42 (oLA 0 43) := r_aload_n (j := 0) (by decide +kernel) rfl
theorem k_138_43 : Ok M138 43 (oGe 5 0 46) := r_get (idx := 7) (by decide +kernel) cd_5 0 (by decide) w_678 rfl
theorem k_138_46 : Ok M138 46 (oS (gKo (.int 2)) 47) := r_iconst (n := 2) (by decide +kernel) (by decide +kernel)
theorem k_138_47 : Ok M138 47 (oLI 1 48) := r_iload_n (j := 1) (by decide +kernel) rfl
theorem k_138_48 : Ok M138 48 (oAT 49) := r_iastore (by decide +kernel)
theorem k_138_49 : Ok M138 49 (oLA 0 50) := r_aload_n (j := 0) (by decide +kernel) rfl
theorem k_138_50 : Ok M138 50 (oCV 5 118 0) := r_callV (idx := 126) (by decide +kernel) w_815 cv_118
theorem k_138_53 : Ok M138 53 (oLI 2 54) := r_iload_n (j := 2) (by decide +kernel) rfl
theorem k_138_54 : Ok M138 54 (oRI) := r_ireturn rfl (by decide +kernel)
def B138_0 : List (Nat × aO) := [(0, oLI 1 1), (1, oS gIL 2), (2, oS (gKo (.long 0)) 3), (3, oK (.long 4) 6), (6, oCS 96 3), (9, oB1 b_if_ne q_ne 19 12), (12, oLA 0 13), (13, oS (gKo (.int (-2))) 15)]
theorem B138_0_ok : ∀ q ∈ B138_0, Ok M138 q.1 q.2 := List.forall_mem_cons.mpr ⟨k_138_0, List.forall_mem_cons.mpr ⟨k_138_1, List.forall_mem_cons.mpr ⟨k_138_2, List.forall_mem_cons.mpr ⟨k_138_3, List.forall_mem_cons.mpr ⟨k_138_6, List.forall_mem_cons.mpr ⟨k_138_9, List.forall_mem_cons.mpr ⟨k_138_12, List.forall_mem_cons.mpr ⟨k_138_13, fun _ h => absurd h List.not_mem_nil⟩⟩⟩⟩⟩⟩⟩⟩
def B138_1 : List (Nat × aO) := [(15, oCV 5 99 1), (18, oRI), (19, oLA 0 20), (20, oGe 5 0 23), (23, oS (gKo (.int 2)) 24), (24, oAI 25), (25, oSI 2 3 26), (26, oLI 2 27)]
theorem B138_1_ok : ∀ q ∈ B138_1, Ok M138 q.1 q.2 := List.forall_mem_cons.mpr ⟨k_138_15, List.forall_mem_cons.mpr ⟨k_138_18, List.forall_mem_cons.mpr ⟨k_138_19, List.forall_mem_cons.mpr ⟨k_138_20, List.forall_mem_cons.mpr ⟨k_138_23, List.forall_mem_cons.mpr ⟨k_138_24, List.forall_mem_cons.mpr ⟨k_138_25, List.forall_mem_cons.mpr ⟨k_138_26, fun _ h => absurd h List.not_mem_nil⟩⟩⟩⟩⟩⟩⟩⟩
def B138_2 : List (Nat × aO) := [(27, oLI 1 28), (28, oB2 b_icmp_ne q_ne 38 31), (31, oLA 0 32), (32, oS (gKo (.int (-3))) 34), (34, oCV 5 99 1), (37, oRI), (38, oLA 0 39), (39, oCV 5 101 0)]
theorem B138_2_ok : ∀ q ∈ B138_2, Ok M138 q.1 q.2 := List.forall_mem_cons.mpr ⟨k_138_27, List.forall_mem_cons.mpr ⟨k_138_28, List.forall_mem_cons.mpr ⟨k_138_31, List.forall_mem_cons.mpr ⟨k_138_32, List.forall_mem_cons.mpr ⟨k_138_34, List.forall_mem_cons.mpr ⟨k_138_37, List.forall_mem_cons.mpr ⟨k_138_38, List.forall_mem_cons.mpr ⟨k_138_39, fun _ h => absurd h List.not_mem_nil⟩⟩⟩⟩⟩⟩⟩⟩
def B138_3 : List (Nat × aO) := [(42, oLA 0 43), (43, oGe 5 0 46), (46, oS (gKo (.int 2)) 47), (47, oLI 1 48), (48, oAT 49), (49, oLA 0 50), (50, oCV 5 118 0), (53, oLI 2 54)]
theorem B138_3_ok : ∀ q ∈ B138_3, Ok M138 q.1 q.2 := List.forall_mem_cons.mpr ⟨k_138_42, List.forall_mem_cons.mpr ⟨k_138_43, List.forall_mem_cons.mpr ⟨k_138_46, List.forall_mem_cons.mpr ⟨k_138_47, List.forall_mem_cons.mpr ⟨k_138_48, List.forall_mem_cons.mpr ⟨k_138_49, List.forall_mem_cons.mpr ⟨k_138_50, List.forall_mem_cons.mpr ⟨k_138_53, fun _ h => absurd h List.not_mem_nil⟩⟩⟩⟩⟩⟩⟩⟩
def B138_4 : List (Nat × aO) := [(54, oRI)]
theorem B138_4_ok : ∀ q ∈ B138_4, Ok M138 q.1 q.2 := List.forall_mem_cons.mpr ⟨k_138_54, fun _ h => absurd h List.not_mem_nil⟩
def P138 : List (Nat × List (Nat × aO)) := [(13, B138_0), (26, B138_1), (39, B138_2), (53, B138_3), (54, B138_4)]
theorem P138_ok : ∀ b ∈ P138, ∀ q ∈ b.2, Ok M138 q.1 q.2 := List.forall_mem_cons.mpr ⟨B138_0_ok, List.forall_mem_cons.mpr ⟨B138_1_ok, List.forall_mem_cons.mpr ⟨B138_2_ok, List.forall_mem_cons.mpr ⟨B138_3_ok, List.forall_mem_cons.mpr ⟨B138_4_ok, fun _ h => absurd h List.not_mem_nil⟩⟩⟩⟩⟩
theorem k_139_0 : Ok M139 0 (oLI 0 1) := r_iload_n (j := 0) (by decide +kernel) rfl
theorem k_139_1 : Ok M139 1 (oLI 1 2) := r_iload_n (j := 1) (by decide +kernel) rfl
theorem k_139_2 : Ok M139 2 (oB2 b_icmp_ge q_ge 9 5) := r_icmp_ge (off := 7) (by decide +kernel) (by decide +kernel)
theorem k_139_5 : Ok M139 5 (oLI 0 6) := r_iload_n (j := 0) (by decide +kernel) rfl
theorem k_139_6 : Ok M139 6 (oGo 10) := r_goto (off := 4) (by decide +kernel) (by decide +kernel)
theorem k_139_9 : Ok M139 9 (oLI 1 10) := r_iload_n (j := 1) (by decide +kernel) rfl
theorem k_139_10 : Ok M139 10 (oRI) := r_ireturn rfl (by decide +kernel)
def B139_0 : List (Nat × aO) := [(0, oLI 0 1), (1, oLI 1 2), (2, oB2 b_icmp_ge q_ge 9 5), (5, oLI 0 6), (6, oGo 10), (9, oLI 1 10), (10, oRI)]
theorem B139_0_ok : ∀ q ∈ B139_0, Ok M139 q.1 q.2 := List.forall_mem_cons.mpr ⟨k_139_0, List.forall_mem_cons.mpr ⟨k_139_1, List.forall_mem_cons.mpr ⟨k_139_2, List.forall_mem_cons.mpr ⟨k_139_5, List.forall_mem_cons.mpr ⟨k_139_6, List.forall_mem_cons.mpr ⟨k_139_9, List.forall_mem_cons.mpr ⟨k_139_10, fun _ h => absurd h List.not_mem_nil⟩⟩⟩⟩⟩⟩⟩
def P139 : List (Nat × List (Nat × aO)) := [(10, B139_0)]
theorem P139_ok : ∀ b ∈ P139, ∀ q ∈ b.2, Ok M139 q.1 q.2 := List.forall_mem_cons.mpr ⟨B139_0_ok, fun _ h => absurd h List.not_mem_nil⟩
theorem k_140_0 : Ok M140 0 (oLA 0 1) := r_aload_n (j := 0) (by decide +kernel) rfl
theorem k_140_1 : Ok M140 1 (oLI 1 2) := r_iload_n (j := 1) (by decide +kernel) rfl
theorem k_140_2 : Ok M140 2 (oCV 5 102 1) := r_callV (idx := 159) (by decide +kernel) w_860 cv_102
theorem k_140_5 : Ok M140 5 (oB1 b_if_eq q_eq 16 8) := r_if_eq (off := 11) (by decide +kernel) (by decide +kernel)
theorem k_140_8 : Ok M140 8 (oLA 0 9) := r_aload_n (j := 0) (by decide +kernel) rfl
theorem k_140_9 : Ok M140 9 (oLI 2 10) := r_iload_n (j := 2) (by decide +kernel) rfl
theorem k_140_10 : Ok M140 10 (oCV 5 102 1) := r_callV (idx := 159) (by decide +kernel) w_860 cv_102
theorem k_140_13 : Ok M140 13 (oB1 b_if_ne q_ne 23 16) := r_if_ne (off := 10) (by decide +kernel) (by decide +kernel)
theorem k_140_16 : Ok M140 16 (oLA 0 17) := r_aload_n (j := 0) (by decide +kernel) rfl
theorem k_140_17 : Ok M140 17 (oS (gKo (.int (-2))) 19) := r_bipush (n := (-2)) (by decide +kernel) (by decide +kernel)
theorem k_140_19 : Ok M140 19 (oCV 5 99 1) := r_callV (idx := 54) (by decide +kernel) w_747 cv_99
theorem k_140_22 : Ok M140 22 (oRI) := r_ireturn rfl (by decide +kernel)
theorem k_140_23 : Ok M140 23 (oLI 1 24) := r_iload_n (j := 1) (by decide +kernel) rfl
theorem k_140_24 : Ok M140 24 (oLI 2 25) := r_iload_n (j := 2) (by decide +kernel) rfl
theorem k_140_25 : Ok M140 25 (oB2 b_icmp_ne q_ne 35 28) := r_icmp_ne (off := 10) (by decide +kernel) (by decide +kernel)
theorem k_140_28 : Ok M140 28 (oLA 0 29) := r_aload_n (j := 0) (by decide +kernel) rfl
theorem k_140_29 : Ok M140 29 (oS (gKo (.int (-3))) 31) := r_bipush (n := (-3)) (by decide +kernel) (by decide +kernel)
theorem k_140_31 : Ok M140 31 (oCV 5 99 1) := r_callV (idx := 54) (by decide +kernel) w_747 cv_99
theorem k_140_34 : Ok M140 34 (oRI) := r_ireturn rfl (by decide +kernel)
theorem k_140_35 : Ok M140 35 (oLA 0 36) := r_aload_n (j := 0) (by decide +kernel) rfl
theorem k_140_36 : Ok M140 36 (oCV 5 101 0) := r_callV (idx := 135) (by decide +kernel) w_823 cv_101
theorem k_140_39 : Ok M140 39 (oLA 0 40) := r_aload_n (j := 0) (by decide +kernel) rfl
theorem k_140_40 : Ok M140 40 (oGe 5 0 43) := r_get (idx := 7) (by decide +kernel) cd_5 0 (by decide) w_678 rfl
theorem k_140_43 : Ok M140 43 (oS (gKo (.int 9)) 45) := r_bipush (n := 9) (by decide +kernel) (by decide +kernel)
theorem k_140_45 : Ok M140 45 (oLI 1 46) := r_iload_n (j := 1) (by decide +kernel) rfl
theorem k_140_46 : Ok M140 46 (oS (gI2 f_iadd) 47) := r_iadd (by decide +kernel)
theorem k_140_47 : Ok M140 47 (oS gD2 48) := r_dup2 (by decide +kernel)
theorem k_140_48 : Ok M140 48 (oAI 49) := r_iaload (by decide +kernel)
theorem k_140_49 : Ok M140 49 (oLA 0 50) := r_aload_n (j := 0) (by decide +kernel) rfl
theorem k_140_50 : Ok M140 50 (oGe 5 0 53) := r_get (idx := 7) (by decide +kernel) cd_5 0 (by decide) w_678 rfl
theorem k_140_53 : Ok M140 53 (oS (gKo (.int 9)) 55) := r_bipush (n := 9) (by decide +kernel) (by decide +kernel)
theorem k_140_55 : Ok M140 55 (oLI 2 56) := r_iload_n (j := 2) (by decide +kernel) rfl
theorem k_140_56 : Ok M140 56 (oS (gI2 f_iadd) 57) := r_iadd (by decide +kernel)
theorem k_140_57 : Ok M140 57 (oAI 58) := r_iaload (by decide +kernel)
theorem k_140_58 : Ok M140 58 (oS (gI2 f_ior) 59) := r_ior (by decide +kernel)
theorem k_140_59 : Ok M140 59 (oAT 60) := r_iastore (by decide +kernel)
theorem k_140_60 : Ok M140 60 (oLA 0 61) := r_aload_n (j := 0) (by decide +kernel) rfl
theorem k_140_61 : Ok M140 61 (oGe 5 0 64) := r_get (idx := 7) (by decide +kernel) cd_5 0 (by decide) w_678 rfl
theorem k_140_64 : Ok M140 64 (oS (gKo (.int 0)) 65) := r_iconst (n := 0) (by decide +kernel) (by decide +kernel)
theorem k_140_65 : Ok M140 65 (oS gD2 66) := r_dup2 (by decide +kernel)
theorem k_140_66 : Ok M140 66 (oAI 67) := r_iaload (by decide +kernel)
theorem k_140_67 : Ok M140 67 (oS (gKo (.int 1)) 68) := r_iconst (n := 1) (by decide +kernel) (by decide +kernel)
theorem k_140_68 : Ok M140 68 (oS (gI2 f_isub) 69) := r_isub (by decide +kernel)
theorem k_140_69 : Ok M140 69 (oAT 70) := r_iastore (by decide +kernel)
theorem k_140_70 : Ok M140 70 (oS (gKo (.int 0)) 71) := r_iconst (n := 0) (by decide +kernel) (by decide +kernel)
theorem k_140_71 : Ok M140 71 (oSI 3 5 72) := r_istore_n (j := 3) (by decide +kernel) rfl
theorem k_140_72 : Ok M140 72 (oLI 3 73) := r_iload_n (j := 3) (by decide +kernel) rfl
theorem k_140_73 : Ok M140 73 (oLA 0 74) := r_aload_n (j := 0) (by decide +kernel) rfl
theorem k_140_74 : Ok M140 74 (oGe 5 0 77) := r_get (idx := 7) (by decide +kernel) cd_5 0 (by decide) w_678 rfl
theorem k_140_77 : Ok M140 77 (oS (gKo (.int 1)) 78) := r_iconst (n := 1) (by decide +kernel) (by decide +kernel)
theorem k_140_78 : Ok M140 78 (oAI 79) := r_iaload (by decide +kernel)
theorem k_140_79 : Ok M140 79 (oB2 b_icmp_ge q_ge 164 82) := r_icmp_ge (off := 85) (by decide +kernel) (by decide +kernel)
theorem k_140_82 : Ok M140 82 (oLA 0 83) := r_aload_n (j := 0) (by decide +kernel) rfl
theorem k_140_83 : Ok M140 83 (oGe 5 0 86) := r_get (idx := 7) (by decide +kernel) cd_5 0 (by decide) w_678 rfl
theorem k_140_86 : Ok M140 86 (oS (gKo (.int 31)) 88) := r_bipush (n := 31) (by decide +kernel) (by decide +kernel)
theorem k_140_88 : Ok M140 88 (oS (gKo (.int 6)) 90) := r_bipush (n := 6) (by decide +kernel) (by decide +kernel)
theorem k_140_90 : Ok M140 90 (oLI 3 91) := r_iload_n (j := 3) (by decide +kernel) rfl
theorem k_140_91 : Ok M140 91 (oS (gI2 f_imul) 92) := r_imul (by decide +kernel)
theorem k_140_92 : Ok M140 92 (oS (gI2 f_iadd) 93) := r_iadd (by decide +kernel)
theorem k_140_93 : Ok M140 93 (oLI 1 94) := r_iload_n (j := 1) (by decide +kernel) rfl
theorem k_140_94 : Ok M140 94 (oS (gI2 f_iadd) 95) := r_iadd (by decide +kernel)
theorem k_140_95 : Ok M140 95 (oS (gKo (.int 99)) 97) := r_bipush (n := 99) (by decide +kernel) (by decide +kernel)
theorem k_140_97 : Ok M140 97 (oLA 0 98) := r_aload_n (j := 0) (by decide +kernel) rfl
theorem k_140_98 : Ok M140 98 (oLI 3 99) := r_iload_n (j := 3) (by decide +kernel) rfl
theorem k_140_99 : Ok M140 99 (oLI 1 100) := r_iload_n (j := 1) (by decide +kernel) rfl
theorem k_140_100 : Ok M140 100 (oCV 5 104 2) := r_callV (idx := 155) (by decide +kernel) w_885 cv_104
theorem k_140_103 : Ok M140 103 (oLA 0 104) := r_aload_n (j := 0) (by decide +kernel) rfl
theorem k_140_104 : Ok M140 104 (oLI 3 105) := r_iload_n (j := 3) (by decide +kernel) rfl
theorem k_140_105 : Ok M140 105 (oLI 2 106) := r_iload_n (j := 2) (by decide +kernel) rfl
theorem k_140_106 : Ok M140 106 (oCV 5 104 2) := r_callV (idx := 155) (by decide +kernel) w_885 cv_104
theorem k_140_109 : Ok M140 109 (oS (gI2 f_iadd) 110) := r_iadd (by decide +kernel)
theorem k_140_110 : Ok M140 110 (oCS 139 2) := r_callS (idx := 188) (by decide +kernel) w_920 cs_139
theorem k_140_113 : Ok M140 113 (oAT 114) := r_iastore (by decide +kernel)
theorem k_140_114 : Ok M140 114 (oLI 2 115) := r_iload_n (j := 2) (by decide +kernel) rfl
theorem k_140_115 : Ok M140 115 (oSI 4 5 117) := r_istore (by decide +kernel)
theorem k_140_117 : Ok M140 117 (oLI 4 119) := r_iload (by decide +kernel)
theorem k_140_119 : Ok M140 119 (oLA 0 120) := r_aload_n (j := 0) (by decide +kernel) rfl
theorem k_140_120 : Ok M140 120 (oGe 5 0 123) := r_get (idx := 7) (by decide +kernel) cd_5 0 (by decide) w_678 rfl
theorem k_140_123 : Ok M140 123 (oS (gKo (.int 0)) 124) := r_iconst (n := 0) (by decide +kernel) (by decide +kernel)
theorem k_140_124 : Ok M140 124 (oAI 125) := r_iaload (by decide +kernel)
theorem k_140_125 : Ok M140 125 (oB2 b_icmp_ge q_ge 158 128) := r_icmp_ge (off := 33) (by decide +kernel) (by decide +kernel)
theorem k_140_128 : Ok M140 128 (oLA 0 129) := r_aload_n (j := 0) (by decide +kernel) rfl
theorem k_140_129 : Ok M140 129 (oGe 5 0 132) := r_get (idx := 7) (by decide +kernel) cd_5 0 (by decide) w_678 rfl
theorem k_140_132 : Ok M140 132 (oS (gKo (.int 31)) 134) := r_bipush (n := 31) (by decide +kernel) (by decide +kernel)
theorem k_140_134 : Ok M140 134 (oS (gKo (.int 6)) 136) := r_bipush (n := 6) (by decide +kernel) (by decide +kernel)
theorem k_140_136 : Ok M140 136 (oLI 3 137) := r_iload_n (j := 3) (by decide +kernel) rfl
theorem k_140_137 : Ok M140 137 (oS (gI2 f_imul) 138) := r_imul (by decide +kernel)
theorem k_140_138 : Ok M140 138 (oS (gI2 f_iadd) 139) := r_iadd (by decide +kernel)
theorem k_140_139 : Ok M140 139 (oLI 4 141) := r_iload (by decide +kernel)
theorem k_140_141 : Ok M140 141 (oS (gI2 f_iadd) 142) := r_iadd (by decide +kernel)
theorem k_140_142 : Ok M140 142 (oLA 0 143) := r_aload_n (j := 0) (by decide +kernel) rfl
theorem k_140_143 : Ok M140 143 (oLI 3 144) := r_iload_n (j := 3) (by decide +kernel) rfl
theorem k_140_144 : Ok M140 144 (oLI 4 146) := r_iload (by decide +kernel)
theorem k_140_146 : Ok M140 146 (oS (gKo (.int 1)) 147) := r_iconst (n := 1) (by decide +kernel) (by decide +kernel)
theorem k_140_147 : Ok M140 147 (oS (gI2 f_iadd) 148) := r_iadd (by decide +kernel)
theorem k_140_148 : Ok M140 148 (oCV 5 104 2) := r_callV (idx := 155) (by decide +kernel) w_885 cv_104
theorem k_140_151 : Ok M140 151 (oAT 152) := r_iastore (by decide +kernel)
theorem k_140_152 : Ok M140 152 (oInc 4 1 5 155) := r_iinc (n := 1) (by decide +kernel) (by decide +kernel)
theorem k_140_155 : Ok M140 155 (oGo 117) := r_goto (off := (-38)) (by decide +kernel) (by decide +kernel)
theorem k_140_158 : Ok M140 158 (oInc 3 1 5 161) := r_iinc (n := 1) (by decide +kernel) (by decide +kernel)
theorem k_140_161 : Ok M140 161 (oGo 72) := r_goto (off := (-89)) (by decide +kernel) (by decide +kernel)
theorem k_140_164 : Ok M140 164 (oLI 2 165) := r_iload_n (j := 2) (by decide +kernel) rfl
theorem k_140_165 : Ok M140 165 (oSI 3 5 166) := r_istore_n (j := 3) (by decide +kernel) rfl
theorem k_140_166 : Ok M140 166 (oLI 3 167) := r_iload_n (j := 3) (by decide +kernel) rfl
theorem k_140_167 : Ok M140 167 (oLA 0 168) := r_aload_n (j := 0) (by decide +kernel) rfl
theorem k_140_168 : Ok M140 168 (oGe 5 0 171) := r_get (idx := 7) (by decide +kernel) cd_5 0 (by decide) w_678 rfl
theorem k_140_171 : Ok M140 171 (oS (gKo (.int 0)) 172) := r_iconst (n := 0) (by decide +kernel) (by decide +kernel)
theorem k_140_172 : Ok M140 172 (oAI 173) := r_iaload (by decide +kernel)
theorem k_140_173 : Ok M140 173 (oB2 b_icmp_ge q_ge 202 176) := r_icmp_ge (off := 29) (by decide +kernel) (by decide +kernel)
theorem k_140_176 : Ok M140 176 (oLA 0 177) := r_aload_n (j := 0) (by decide +kernel) rfl
theorem k_140_177 : Ok M140 177 (oGe 5 0 180) := r_get (idx := 7) (by decide +kernel) cd_5 0 (by decide) w_678 rfl
theorem k_140_180 : Ok M140 180 (oS (gKo (.int 9)) 182) := r_bipush (n := 9) (by decide +kernel) (by decide +kernel)
theorem k_140_182 : Ok M140 182 (oLI 3 183) := r_iload_n (j := 3) (by decide +kernel) rfl
theorem k_140_183 : Ok M140 183 (oS (gI2 f_iadd) 184) := r_iadd (by decide +kernel)
theorem k_140_184 : Ok M140 184 (oLA 0 185) := r_aload_n (j := 0) (by decide +kernel) rfl
theorem k_140_185 : Ok M140 185 (oGe 5 0 188) := r_get (idx := 7) (by decide +kernel) cd_5 0 (by decide) w_678 rfl
theorem k_140_188 : Ok M140 188 (oS (gKo (.int 9)) 190) := r_bipush (n := 9) (by decide +kernel) (by decide +kernel)
theorem k_140_190 : Ok M140 190 (oLI 3 191) := r_iload_n (j := 3) (by decide +kernel) rfl
theorem k_140_191 : Ok M140 191 (oS (gI2 f_iadd) 192) := r_iadd (by decide +kernel)
theorem k_140_192 : Ok M140 192 (oS (gKo (.int 1)) 193) := r_iconst (n := 1) (by decide +kernel) (by decide +kernel)
theorem k_140_193 : Ok M140 193 (oS (gI2 f_iadd) 194) := r_iadd (by decide +kernel)
theorem k_140_194 : Ok M140 194 (oAI 195) := r_iaload (by decide +kernel)
theorem k_140_195 : Ok M140 195 (oAT 196) := r_iastore (by decide +kernel)
theorem k_140_196 : Ok M140 196 (oInc 3 1 5 199) := r_iinc (n := 1) (by decide +kernel) (by decide +kernel)
theorem k_140_199 : Ok M140 199 (oGo 166) := r_goto (off := (-33)) (by decide +kernel) (by decide +kernel)
theorem k_140_202 : Ok M140 202 (oLA 0 203) := r_aload_n (j := 0) (by decide +kernel) rfl
theorem k_140_203 : Ok M140 203 (oCV 5 118 0) := r_callV (idx := 126) (by decide +kernel) w_815 cv_118
theorem k_140_206 : Ok M140 206 (oLA 0 207) := r_aload_n (j := 0) (by decide +kernel) rfl
theorem k_140_207 : Ok M140 207 (oGe 5 0 210) := r_get (idx := 7) (by decide +kernel) cd_5 0 (by decide) w_678 rfl
theorem k_140_210 : Ok M140 210 (oS (gKo (.int 0)) 211) := r_iconst (n := 0) (by decide +kernel) (by decide +kernel)
theorem k_140_211 : Ok M140 211 (oAI 212) := r_iaload (by decide +kernel)
theorem k_140_212 : Ok M140 212 (oRI) := r_ireturn rfl (by decide +kernel)
def B140_0 : List (Nat × aO) := [(0, oLA 0 1), (1, oLI 1 2), (2, oCV 5 102 1), (5, oB1 b_if_eq q_eq 16 8), (8, oLA 0 9), (9, oLI 2 10), (10, oCV 5 102 1), (13, oB1 b_if_ne q_ne 23 16)]
theorem B140_0_ok : ∀ q ∈ B140_0, Ok M140 q.1 q.2 := List.forall_mem_cons.mpr ⟨k_140_0, List.forall_mem_cons.mpr ⟨k_140_1, List.forall_mem_cons.mpr ⟨k_140_2, List.forall_mem_cons.mpr ⟨k_140_5, List.forall_mem_cons.mpr ⟨k_140_8, List.forall_mem_cons.mpr ⟨k_140_9, List.forall_mem_cons.mpr ⟨k_140_10, List.forall_mem_cons.mpr ⟨k_140_13, fun _ h => absurd h List.not_mem_nil⟩⟩⟩⟩⟩⟩⟩⟩
def B140_1 : List (Nat × aO) := [(16, oLA 0 17), (17, oS (gKo (.int (-2))) 19), (19, oCV 5 99 1), (22, oRI), (23, oLI 1 24), (24, oLI 2 25), (25, oB2 b_icmp_ne q_ne 35 28), (28, oLA 0 29)]
theorem B140_1_ok : ∀ q ∈ B140_1, Ok M140 q.1 q.2 := List.forall_mem_cons.mpr ⟨k_140_16, List.forall_mem_cons.mpr ⟨k_140_17, List.forall_mem_cons.mpr ⟨k_140_19, List.forall_mem_cons.mpr ⟨k_140_22, List.forall_mem_cons.mpr ⟨k_140_23, List.forall_mem_cons.mpr ⟨k_140_24, List.forall_mem_cons.mpr ⟨k_140_25, List.forall_mem_cons.mpr ⟨k_140_28, fun _ h => absurd h List.not_mem_nil⟩⟩⟩⟩⟩⟩⟩⟩
def B140_2 : List (Nat × aO) := [(29, oS (gKo (.int (-3))) 31), (31, oCV 5 99 1), (34, oRI), (35, oLA 0 36), (36, oCV 5 101 0), (39, oLA 0 40), (40, oGe 5 0 43), (43, oS (gKo (.int 9)) 45)]
theorem B140_2_ok : ∀ q ∈ B140_2, Ok M140 q.1 q.2 := List.forall_mem_cons.mpr ⟨k_140_29, List.forall_mem_cons.mpr ⟨k_140_31, List.forall_mem_cons.mpr ⟨k_140_34, List.forall_mem_cons.mpr ⟨k_140_35, List.forall_mem_cons.mpr ⟨k_140_36, List.forall_mem_cons.mpr ⟨k_140_39, List.forall_mem_cons.mpr ⟨k_140_40, List.forall_mem_cons.mpr ⟨k_140_43, fun _ h => absurd h List.not_mem_nil⟩⟩⟩⟩⟩⟩⟩⟩
def B140_3 : List (Nat × aO) := [(45, oLI 1 46), (46, oS (gI2 f_iadd) 47), (47, oS gD2 48), (48, oAI 49), (49, oLA 0 50), (50, oGe 5 0 53), (53, oS (gKo (.int 9)) 55), (55, oLI 2 56)]
theorem B140_3_ok : ∀ q ∈ B140_3, Ok M140 q.1 q.2 := List.forall_mem_cons.mpr ⟨k_140_45, List.forall_mem_cons.mpr ⟨k_140_46, List.forall_mem_cons.mpr ⟨k_140_47, List.forall_mem_cons.mpr ⟨k_140_48, List.forall_mem_cons.mpr ⟨k_140_49, List.forall_mem_cons.mpr ⟨k_140_50, List.forall_mem_cons.mpr ⟨k_140_53, List.forall_mem_cons.mpr ⟨k_140_55, fun _ h => absurd h List.not_mem_nil⟩⟩⟩⟩⟩⟩⟩⟩
def B140_4 : List (Nat × aO) := [(56, oS (gI2 f_iadd) 57), (57, oAI 58), (58, oS (gI2 f_ior) 59), (59, oAT 60), (60, oLA 0 61), (61, oGe 5 0 64), (64, oS (gKo (.int 0)) 65), (65, oS gD2 66)]
theorem B140_4_ok : ∀ q ∈ B140_4, Ok M140 q.1 q.2 := List.forall_mem_cons.mpr ⟨k_140_56, List.forall_mem_cons.mpr ⟨k_140_57, List.forall_mem_cons.mpr ⟨k_140_58, List.forall_mem_cons.mpr ⟨k_140_59, List.forall_mem_cons.mpr ⟨k_140_60, List.forall_mem_cons.mpr ⟨k_140_61, List.forall_mem_cons.mpr ⟨k_140_64, List.forall_mem_cons.mpr ⟨k_140_65, fun _ h => absurd h List.not_mem_nil⟩⟩⟩⟩⟩⟩⟩⟩
def B140_5 : List (Nat × aO) := [(66, oAI 67), (67, oS (gKo (.int 1)) 68), (68, oS (gI2 f_isub) 69), (69, oAT 70), (70, oS (gKo (.int 0)) 71), (71, oSI 3 5 72), (72, oLI 3 73), (73, oLA 0 74)]
theorem B140_5_ok : ∀ q ∈ B140_5, Ok M140 q.1 q.2 := List.forall_mem_cons.mpr ⟨k_140_66, List.forall_mem_cons.mpr ⟨k_140_67, List.forall_mem_cons.mpr ⟨k_140_68, List.forall_mem_cons.mpr ⟨k_140_69, List.forall_mem_cons.mpr ⟨k_140_70, List.forall_mem_cons.mpr ⟨k_140_71, List.forall_mem_cons.mpr ⟨k_140_72, List.forall_mem_cons.mpr ⟨k_140_73, fun _ h => absurd h List.not_mem_nil⟩⟩⟩⟩⟩⟩⟩⟩
def B140_6 : List (Nat × aO) := [(74, oGe 5 0 77), (77, oS (gKo (.int 1)) 78), (78, oAI 79), (79, oB2 b_icmp_ge q_ge 164 82), (82, oLA 0 83), (83, oGe 5 0 86), (86, oS (gKo (.int 31)) 88), (88, oS (gKo (.int 6)) 90)]
theorem B140_6_ok : ∀ q ∈ B140_6, Ok M140 q.1 q.2 := List.forall_mem_cons.mpr ⟨k_140_74, List.forall_mem_cons.mpr ⟨k_140_77, List.forall_mem_cons.mpr ⟨k_140_78, List.forall_mem_cons.mpr ⟨k_140_79, List.forall_mem_cons.mpr ⟨k_140_82, List.forall_mem_cons.mpr ⟨k_140_83, List.forall_mem_cons.mpr ⟨k_140_86, List.forall_mem_cons.mpr ⟨k_140_88, fun _ h => absurd h List.not_mem_nil⟩⟩⟩⟩⟩⟩⟩⟩
def B140_7 : List (Nat × aO) := [(90, oLI 3 91), (91, oS (gI2 f_imul) 92), (92, oS (gI2 f_iadd) 93), (93, oLI 1 94), (94, oS (gI2 f_iadd) 95), (95, oS (gKo (.int 99)) 97), (97, oLA 0 98), (98, oLI 3 99)]
theorem B140_7_ok : ∀ q ∈ B140_7, Ok M140 q.1 q.2 := List.forall_mem_cons.mpr ⟨k_140_90, List.forall_mem_cons.mpr ⟨k_140_91, List.forall_mem_cons.mpr ⟨k_140_92, List.forall_mem_cons.mpr ⟨k_140_93, List.forall_mem_cons.mpr ⟨k_140_94, List.forall_mem_cons.mpr ⟨k_140_95, List.forall_mem_cons.mpr ⟨k_140_97, List.forall_mem_cons.mpr ⟨k_140_98, fun _ h => absurd h List.not_mem_nil⟩⟩⟩⟩⟩⟩⟩⟩
def B140_8 : List (Nat × aO) := [(99, oLI 1 100), (100, oCV 5 104 2), (103, oLA 0 104), (104, oLI 3 105), (105, oLI 2 106), (106, oCV 5 104 2), (109, oS (gI2 f_iadd) 110), (110, oCS 139 2)]
theorem B140_8_ok : ∀ q ∈ B140_8, Ok M140 q.1 q.2 := List.forall_mem_cons.mpr ⟨k_140_99, List.forall_mem_cons.mpr ⟨k_140_100, List.forall_mem_cons.mpr ⟨k_140_103, List.forall_mem_cons.mpr ⟨k_140_104, List.forall_mem_cons.mpr ⟨k_140_105, List.forall_mem_cons.mpr ⟨k_140_106, List.forall_mem_cons.mpr ⟨k_140_109, List.forall_mem_cons.mpr ⟨k_140_110, fun _ h => absurd h List.not_mem_nil⟩⟩⟩⟩⟩⟩⟩⟩
def B140_9 : List (Nat × aO) := [(113, oAT 114), (114, oLI 2 115), (115, oSI 4 5 117), (117, oLI 4 119), (119, oLA 0 120), (120, oGe 5 0 123), (123, oS (gKo (.int 0)) 124), (124, oAI 125)]
theorem B140_9_ok : ∀ q ∈ B140_9, Ok M140 q.1 q.2 := List.forall_mem_cons.mpr ⟨k_140_113, List.forall_mem_cons.mpr ⟨k_140_114, List.forall_mem_cons.mpr ⟨k_140_115, List.forall_mem_cons.mpr ⟨k_140_117, List.forall_mem_cons.mpr ⟨k_140_119, List.forall_mem_cons.mpr ⟨k_140_120, List.forall_mem_cons.mpr ⟨k_140_123, List.forall_mem_cons.mpr ⟨k_140_124, fun _ h => absurd h List.not_mem_nil⟩⟩⟩⟩⟩⟩⟩⟩
def B140_10 : List (Nat × aO) := [(125, oB2 b_icmp_ge q_ge 158 128), (128, oLA 0 129), (129, oGe 5 0 132), (132, oS (gKo (.int 31)) 134), (134, oS (gKo (.int 6)) 136), (136, oLI 3 137), (137, oS (gI2 f_imul) 138), (138, oS (gI2 f_iadd) 139)]
theorem B140_10_ok : ∀ q ∈ B140_10, Ok M140 q.1 q.2 := List.forall_mem_cons.mpr ⟨k_140_125, List.forall_mem_cons.mpr ⟨k_140_128, List.forall_mem_cons.mpr ⟨k_140_129, List.forall_mem_cons.mpr ⟨k_140_132, List.forall_mem_cons.mpr ⟨k_140_134, List.forall_mem_cons.mpr ⟨k_140_136, List.forall_mem_cons.mpr ⟨k_140_137, List.forall_mem_cons.mpr ⟨k_140_138, fun _ h => absurd h List.not_mem_nil⟩⟩⟩⟩⟩⟩⟩⟩
def B140_11 : List (Nat × aO) := [(139, oLI 4 141), (141, oS (gI2 f_iadd) 142), (142, oLA 0 143), (143, oLI 3 144), (144, oLI 4 146), (146, oS (gKo (.int 1)) 147), (147, oS (gI2 f_iadd) 148), (148, oCV 5 104 2)]
theorem B140_11_ok : ∀ q ∈ B140_11, Ok M140 q.1 q.2 := List.forall_mem_cons.mpr ⟨k_140_139, List.forall_mem_cons.mpr ⟨k_140_141, List.forall_mem_cons.mpr ⟨k_140_142, List.forall_mem_cons.mpr ⟨k_140_143, List.forall_mem_cons.mpr ⟨k_140_144, List.forall_mem_cons.mpr ⟨k_140_146, List.forall_mem_cons.mpr ⟨k_140_147, List.forall_mem_cons.mpr ⟨k_140_148, fun _ h => absurd h List.not_mem_nil⟩⟩⟩⟩⟩⟩⟩⟩
def B140_12 : List (Nat × aO) := [(151, oAT 152), (152, oInc 4 1 5 155), (155, oGo 117), (158, oInc 3 1 5 161), (161, oGo 72), (164, oLI 2 165), (165, oSI 3 5 166), (166, oLI 3 167)]
theorem B140_12_ok : ∀ q ∈ B140_12, Ok M140 q.1 q.2 := List.forall_mem_cons.mpr ⟨k_140_151, List.forall_mem_cons.mpr ⟨k_140_152, List.forall_mem_cons.mpr ⟨k_140_155, List.forall_mem_cons.mpr ⟨k_140_158, List.forall_mem_cons.mpr ⟨k_140_161, List.forall_mem_cons.mpr ⟨k_140_164, List.forall_mem_cons.mpr ⟨k_140_165, List.forall_mem_cons.mpr ⟨k_140_166, fun _ h => absurd h List.not_mem_nil⟩⟩⟩⟩⟩⟩⟩⟩
def B140_13 : List (Nat × aO) := [(167, oLA 0 168), (168, oGe 5 0 171), (171, oS (gKo (.int 0)) 172), (172, oAI 173), (173, oB2 b_icmp_ge q_ge 202 176), (176, oLA 0 177), (177, oGe 5 0 180), (180, oS (gKo (.int 9)) 182)]
theorem B140_13_ok : ∀ q ∈ B140_13, Ok M140 q.1 q.2 := List.forall_mem_cons.mpr ⟨k_140_167, List.forall_mem_cons.mpr ⟨k_140_168, List.forall_mem_cons.mpr ⟨k_140_171, List.forall_mem_cons.mpr ⟨k_140_172, List.forall_mem_cons.mpr ⟨k_140_173, List.forall_mem_cons.mpr ⟨k_140_176, List.forall_mem_cons.mpr ⟨k_140_177, List.forall_mem_cons.mpr ⟨k_140_180, fun _ h => absurd h List.not_mem_nil⟩⟩⟩⟩⟩⟩⟩⟩
def B140_14 : List (Nat × aO) := [(182, oLI 3 183), (183, oS (gI2 f_iadd) 184), (184, oLA 0 185), (185, oGe 5 0 188), (188, oS (gKo (.int 9)) 190), (190, oLI 3 191), (191, oS (gI2 f_iadd) 192), (192, oS (gKo (.int 1)) 193)]
theorem B140_14_ok : ∀ q ∈ B140_14, Ok M140 q.1 q.2 := List.forall_mem_cons.mpr ⟨k_140_182, List.forall_mem_cons.mpr ⟨k_140_183, List.forall_mem_cons.mpr ⟨k_140_184, List.forall_mem_cons.mpr ⟨k_140_185, List.forall_mem_cons.mpr ⟨k_140_188, List.forall_mem_cons.mpr ⟨k_140_190, List.forall_mem_cons.mpr ⟨k_140_191, List.forall_mem_cons.mpr ⟨k_140_192, fun _ h => absurd h List.not_mem_nil⟩⟩⟩⟩⟩⟩⟩⟩
def B140_15 : List (Nat × aO) := [(193, oS (gI2 f_iadd) 194), (194, oAI 195), (195, oAT 196), (196, oInc 3 1 5 199), (199, oGo 166), (202, oLA 0 203), (203, oCV 5 118 0), (206, oLA 0 207)]
theorem B140_15_ok : ∀ q ∈ B140_15, Ok M140 q.1 q.2 := List.forall_mem_cons.mpr ⟨k_140_193, List.forall_mem_cons.mpr ⟨k_140_194, List.forall_mem_cons.mpr ⟨k_140_195, List.forall_mem_cons.mpr ⟨k_140_196, List.forall_mem_cons.mpr ⟨k_140_199, List.forall_mem_cons.mpr ⟨k_140_202, List.forall_mem_cons.mpr ⟨k_140_203, List.forall_mem_cons.mpr ⟨k_140_206, fun _ h => absurd h List.not_mem_nil⟩⟩⟩⟩⟩⟩⟩⟩
def B140_16 : List (Nat × aO) := [(207, oGe 5 0 210), (210, oS (gKo (.int 0)) 211), (211, oAI 212), (212, oRI)]
theorem B140_16_ok : ∀ q ∈ B140_16, Ok M140 q.1 q.2 := List.forall_mem_cons.mpr ⟨k_140_207, List.forall_mem_cons.mpr ⟨k_140_210, List.forall_mem_cons.mpr ⟨k_140_211, List.forall_mem_cons.mpr ⟨k_140_212, fun _ h => absurd h List.not_mem_nil⟩⟩⟩⟩
def P140 : List (Nat × List (Nat × aO)) := [(13, B140_0), (28, B140_1), (43, B140_2), (55, B140_3), (65, B140_4), (73, B140_5), (88, B140_6), (98, B140_7), (110, B140_8), (124, B140_9), (138, B140_10), (148, B140_11), (166, B140_12), (180, B140_13), (192, B140_14), (206, B140_15), (212, B140_16)]
theorem P140_ok : ∀ b ∈ P140, ∀ q ∈ b.2, Ok M140 q.1 q.2 := List.forall_mem_cons.mpr ⟨B140_0_ok, List.forall_mem_cons.mpr ⟨B140_1_ok, List.forall_mem_cons.mpr ⟨B140_2_ok, List.forall_mem_cons.mpr ⟨B140_3_ok, List.forall_mem_cons.mpr ⟨B140_4_ok, List.forall_mem_cons.mpr ⟨B140_5_ok, List.forall_mem_cons.mpr ⟨B140_6_ok, List.forall_mem_cons.mpr ⟨B140_7_ok, List.forall_mem_cons.mpr ⟨B140_8_ok, List.forall_mem_cons.mpr ⟨B140_9_ok, List.forall_mem_cons.mpr ⟨B140_10_ok, List.forall_mem_cons.mpr ⟨B140_11_ok, List.forall_mem_cons.mpr ⟨B140_12_ok, List.forall_mem_cons.mpr ⟨B140_13_ok, List.forall_mem_cons.mpr ⟨B140_14_ok, List.forall_mem_cons.mpr ⟨B140_15_ok, List.forall_mem_cons.mpr ⟨B140_16_ok, fun _ h => absurd h List.not_mem_nil⟩⟩⟩⟩⟩⟩⟩⟩⟩⟩⟩⟩⟩⟩⟩⟩⟩
theorem k_141_0 : Ok M141 0 (oLA 0 1) := r_aload_n (j := 0) (by decide +kernel) rfl
theorem k_141_1 : Ok M141 1 (oLI 1 2) := r_iload_n (j := 1) (by decide +kernel) rfl
theorem k_141_2 : Ok M141 2 (oCV 5 103 1) := r_callV (idx := 174) (by decide +kernel) w_872 cv_103
theorem k_141_5 : Ok M141 5 (oB1 b_if_eq q_eq 16 8) := r_if_eq (off := 11) (by decide +kernel) (by decide +kernel)
theorem k_141_8 : Ok M141 8 (oLA 0 9) := r_aload_n (j := 0) (by decide +kernel) rfl
theorem k_141_9 : Ok M141 9 (oLI 2 10) := r_iload_n (j := 2) (by decide +kernel) rfl
theorem k_141_10 : Ok M141 10 (oCV 5 103 1) := r_callV (idx := 174) (by decide +kernel) w_872 cv_103
theorem k_141_13 : Ok M141 13 (oB1 b_if_ne q_ne 23 16) := r_if_ne (off := 10) (by decide +kernel) (by decide +kernel)
theorem k_141_16 : Ok M141 16 (oLA 0 17) := r_aload_n (j := 0) (by decide +kernel) rfl
theorem k_141_17 : Ok M141 17 (oS (gKo (.int (-2))) 19) := r_bipush (n := (-2)) (by decide +kernel) (by decide +kernel)
theorem k_141_19 : Ok M141 19 (oCV 5 99 1) := r_callV (idx := 54) (by decide +kernel) w_747 cv_99
theorem k_141_22 : Ok M141 22 (oRI) := r_ireturn rfl (by decide +kernel)
theorem k_141_23 : Ok M141 23 (oLI 1 24) := r_iload_n (j := 1) (by decide +kernel) rfl
theorem k_141_24 : Ok M141 24 (oLI 2 25) := r_iload_n (j := 2) (by decide +kernel) rfl
theorem k_141_25 : Ok M141 25 (oB2 b_icmp_ne q_ne 35 28) := r_icmp_ne (off := 10) (by decide +kernel) (by decide +kernel)
theorem k_141_28 : Ok M141 28 (oLA 0 29) := r_aload_n (j := 0) (by decide +kernel) rfl
theorem k_141_29 : Ok M141 29 (oS (gKo (.int (-3))) 31) := r_bipush (n := (-3)) (by decide +kernel) (by decide +kernel)
theorem k_141_31 : Ok M141 31 (oCV 5 99 1) := r_callV (idx := 54) (by decide +kernel) w_747 cv_99
theorem k_141_34 : Ok M141 34 (oRI) := r_ireturn rfl (by decide +kernel)
theorem k_141_35 : Ok M141 35 (oLA 0 36) := r_aload_n (j := 0) (by decide +kernel) rfl
theorem k_141_36 : Ok M141 36 (oCV 5 101 0) := r_callV (idx := 135) (by decide +kernel) w_823 cv_101
theorem k_141_39 : Ok M141 39 (oLA 0 40) := r_aload_n (j := 0) (by decide +kernel) rfl
theorem k_141_40 : Ok M141 40 (oGe 5 0 43) := r_get (idx := 7) (by decide +kernel) cd_5 0 (by decide) w_678 rfl
theorem k_141_43 : Ok M141 43 (oS (gKo (.int 27)) 45) := r_bipush (n := 27) (by decide +kernel) (by decide +kernel)
theorem k_141_45 : Ok M141 45 (oLI 1 46) := r_iload_n (j := 1) (by decide +kernel) rfl
theorem k_141_46 : Ok M141 46 (oS (gI2 f_iadd) 47) := r_iadd (by decide +kernel)
theorem k_141_47 : Ok M141 47 (oS (gKo (.int 999)) 50) := r_sipush (n := 999) (by decide +kernel) (by decide +kernel)
theorem k_141_50 : Ok M141 50 (oLA 0 51) := r_aload_n (j := 0) (by decide +kernel) rfl
theorem k_141_51 : Ok M141 51 (oGe 5 0 54) := r_get (idx := 7) (by decide +kernel) cd_5 0 (by decide) w_678 rfl
theorem k_141_54 : Ok M141 54 (oS (gKo (.int 27)) 56) := r_bipush (n := 27) (by decide +kernel) (by decide +kernel)
theorem k_141_56 : Ok M141 56 (oLI 1 57) := r_iload_n (j := 1) (by decide +kernel) rfl
theorem k_141_57 : Ok M141 57 (oS (gI2 f_iadd) 58) := r_iadd (by decide +kernel)
theorem k_141_58 : Ok M141 58 (oAI 59) := r_iaload (by decide +kernel)
theorem k_141_59 : Ok M141 59 (oLA 0 60) := r_aload_n (j := 0) (by decide +kernel) rfl
theorem k_141_60 : Ok M141 60 (oGe 5 0 63) := r_get (idx := 7) (by decide +kernel) cd_5 0 (by decide) w_678 rfl
theorem k_141_63 : Ok M141 63 (oS (gKo (.int 27)) 65) := r_bipush (n := 27) (by decide +kernel) (by decide +kernel)
theorem k_141_65 : Ok M141 65 (oLI 2 66) := r_iload_n (j := 2) (by decide +kernel) rfl
theorem k_141_66 : Ok M141 66 (oS (gI2 f_iadd) 67) := r_iadd (by decide +kernel)
theorem k_141_67 : Ok M141 67 (oAI 68) := r_iaload (by decide +kernel)
theorem k_141_68 : Ok M141 68 (oS (gI2 f_iadd) 69) := r_iadd (by decide +kernel)
theorem k_141_69 : Ok M141 69 (oCS 139 2) := r_callS (idx := 188) (by decide +kernel) w_920 cs_139
theorem k_141_72 : Ok M141 72 (oAT 73) := r_iastore (by decide +kernel)
theorem k_141_73 : Ok M141 73 (oS (gKo (.int 0)) 74) := r_iconst (n := 0) (by decide +kernel) (by decide +kernel)
theorem k_141_74 : Ok M141 74 (oSI 3 6 75) := r_istore_n (j := 3) (by decide +kernel) rfl
theorem k_141_75 : Ok M141 75 (oLI 3 76) := r_iload_n (j := 3) (by decide +kernel) rfl
theorem k_141_76 : Ok M141 76 (oLA 0 77) := r_aload_n (j := 0) (by decide +kernel) rfl
theorem k_141_77 : Ok M141 77 (oGe 5 0 80) := r_get (idx := 7) (by decide +kernel) cd_5 0 (by decide) w_678 rfl
theorem k_141_80 : Ok M141 80 (oS (gKo (.int 0)) 81) := r_iconst (n := 0) (by decide +kernel) (by decide +kernel)
theorem k_141_81 : Ok M141 81 (oAI 82) := r_iaload (by decide +kernel)
theorem k_141_82 : Ok M141 82 (oB2 b_icmp_ge q_ge 135 85) := r_icmp_ge (off := 53) (by decide +kernel) (by decide +kernel)
theorem k_141_85 : Ok M141 85 (oLA 0 86) := r_aload_n (j := 0) (by decide +kernel) rfl
theorem k_141_86 : Ok M141 86 (oGe 5 0 89) := r_get (idx := 7) (by decide +kernel) cd_5 0 (by decide) w_678 rfl
theorem k_141_89 : Ok M141 89 (oS (gKo (.int 31)) 91) := r_bipush (n := 31) (by decide +kernel) (by decide +kernel)
theorem k_141_91 : Ok M141 91 (oS (gKo (.int 6)) 93) := r_bipush (n := 6) (by decide +kernel) (by decide +kernel)
theorem k_141_93 : Ok M141 93 (oLI 1 94) := r_iload_n (j := 1) (by decide +kernel) rfl
theorem k_141_94 : Ok M141 94 (oS (gI2 f_imul) 95) := r_imul (by decide +kernel)
theorem k_141_95 : Ok M141 95 (oS (gI2 f_iadd) 96) := r_iadd (by decide +kernel)
theorem k_141_96 : Ok M141 96 (oLI 3 97) := r_iload_n (j := 3) (by decide +kernel) rfl
theorem k_141_97 : Ok M141 97 (oS (gI2 f_iadd) 98) := r_iadd (by decide +kernel)
theorem k_141_98 : Ok M141 98 (oLA 0 99) := r_aload_n (j := 0) (by decide +kernel) rfl
theorem k_141_99 : Ok M141 99 (oLI 1 100) := r_iload_n (j := 1) (by decide +kernel) rfl
theorem k_141_100 : Ok M141 100 (oLI 3 101) := r_iload_n (j := 3) (by decide +kernel) rfl
theorem k_141_101 : Ok M141 101 (oCV 5 104 2) := r_callV (idx := 155) (by decide +kernel) w_885 cv_104
theorem k_141_104 : Ok M141 104 (oLA 0 105) := r_aload_n (j := 0) (by decide +kernel) rfl
theorem k_141_105 : Ok M141 105 (oLI 2 106) := r_iload_n (j := 2) (by decide +kernel) rfl
theorem k_141_106 : Ok M141 106 (oLI 3 107) := r_iload_n (j := 3) (by decide +kernel) rfl
theorem k_141_107 : Ok M141 107 (oCV 5 104 2) := r_callV (idx := 155) (by decide +kernel) w_885 cv_104
theorem k_141_110 : Ok M141 110 (oB2 b_icmp_le q_le 122 113) := r_icmp_le (off := 12) (by decide +kernel) (by decide +kernel)
theorem k_141_113 : Ok M141 113 (oLA 0 114) := r_aload_n (j := 0) (by decide +kernel) rfl
theorem k_141_114 : Ok M141 114 (oLI 1 115) := r_iload_n (j := 1) (by decide +kernel) rfl
theorem k_141_115 : Ok M141 115 (oLI 3 116) := r_iload_n (j := 3) (by decide +kernel) rfl
theorem k_141_116 : Ok M141 116 (oCV 5 104 2) := r_callV (idx := 155) (by decide +kernel) w_885 cv_104
theorem k_141_119 : Ok M141 119 (oGo 128) := r_goto (off := 9) (by decide +kernel) (by decide +kernel)
theorem k_141_122 : Ok M141 122 (oLA 0 123) := r_aload_n (j := 0) (by decide +kernel) rfl
theorem k_141_123 : Ok M141 123 (oLI 2 124) := r_iload_n (j := 2) (by decide +kernel) rfl
theorem k_141_124 : Ok M141 124 (oLI 3 125) := r_iload_n (j := 3) (by decide +kernel) rfl
theorem k_141_125 : Ok M141 125 (oCV 5 104 2) := r_callV (idx := 155) (by decide +kernel) w_885 cv_104
theorem k_141_128 : Ok M141 128 (oAT 129) := r_iastore (by decide +kernel)
theorem k_141_129 : Ok M141 129 (oInc 3 1 6 132) := r_iinc (n := 1) (by decide +kernel) (by decide +kernel)
theorem k_141_132 : Ok M141 132 (oGo 75) := r_goto (off := (-57)) (by decide +kernel) (by decide +kernel)
theorem k_141_135 : Ok M141 135 (oLA 0 136) := r_aload_n (j := 0) (by decide +kernel) rfl
theorem k_141_136 : Ok M141 136 (oGe 5 0 139) := r_get (idx := 7) (by decide +kernel) cd_5 0 (by decide) w_678 rfl
theorem k_141_139 : Ok M141 139 (oS (gKo (.int 7)) 141) := r_bipush (n := 7) (by decide +kernel) (by decide +kernel)
theorem k_141_141 : Ok M141 141 (oAI 142) := r_iaload (by decide +kernel)
theorem k_141_142 : Ok M141 142 (oLA 0 143) := r_aload_n (j := 0) (by decide +kernel) rfl
theorem k_141_143 : Ok M141 143 (oGe 5 0 146) := r_get (idx := 7) (by decide +kernel) cd_5 0 (by decide) w_678 rfl
theorem k_141_146 : Ok M141 146 (oS (gKo (.int 7)) 148) := r_bipush (n := 7) (by decide +kernel) (by decide +kernel)
theorem k_141_148 : Ok M141 148 (oAI 149) := r_iaload (by decide +kernel)
theorem k_141_149 : Ok M141 149 (oLI 2 150) := r_iload_n (j := 2) (by decide +kernel) rfl
theorem k_141_150 : Ok M141 150 (oCS 97 2) := r_callS (idx := 92) (by decide +kernel) w_799 cs_97
theorem k_141_153 : Ok M141 153 (oB1 b_if_eq q_eq 162 156) := r_if_eq (off := 9) (by decide +kernel) (by decide +kernel)
theorem k_141_156 : Ok M141 156 (oS (gKo (.int 1)) 157) := r_iconst (n := 1) (by decide +kernel) (by decide +kernel)
theorem k_141_157 : Ok M141 157 (oLI 1 158) := r_iload_n (j := 1) (by decide +kernel) rfl
theorem k_141_158 : Ok M141 158 (oS (gI2 f_ishl) 159) := r_ishl (by decide +kernel)
theorem k_141_159 : Ok M141 159 (oGo 163) := r_goto (off := 4) (by decide +kernel) (by decide +kernel)
theorem k_141_162 : Ok M141 162 (oS (gKo (.int 0)) 163) := r_iconst (n := 0) (by decide +kernel) (by decide +kernel)
theorem k_141_163 : Ok M141 163 (oS (gI2 f_ior) 164) := r_ior (by decide +kernel)
theorem k_141_164 : Ok M141 164 (oSI 3 6 165) := r_istore_n (j := 3) (by decide +kernel) rfl
theorem k_141_165 : Ok M141 165 (oLA 0 166) := r_aload_n (j := 0) (by decide +kernel) rfl
theorem k_141_166 : Ok M141 166 (oGe 5 0 169) := r_get (idx := 7) (by decide +kernel) cd_5 0 (by decide) w_678 rfl
theorem k_141_169 : Ok M141 169 (oS (gKo (.int 7)) 171) := r_bipush (n := 7) (by decide +kernel) (by decide +kernel)
theorem k_141_171 : Ok M141 171 (oLI 3 172) := r_iload_n (j := 3) (by decide +kernel) rfl
theorem k_141_172 : Ok M141 172 (oS (gKo (.int 1)) 173) := r_iconst (n := 1) (by decide +kernel) (by decide +kernel)
theorem k_141_173 : Ok M141 173 (oLI 2 174) := r_iload_n (j := 2) (by decide +kernel) rfl
theorem k_141_174 : Ok M141 174 (oS (gI2 f_ishl) 175) := r_ishl (by decide +kernel)
theorem k_141_175 : Ok M141 175 (oS (gKo (.int 1)) 176) := r_iconst (n := 1) (by decide +kernel) (by decide +kernel)
theorem k_141_176 : Ok M141 176 (oS (gI2 f_isub) 177) := r_isub (by decide +kernel)
theorem k_141_177 : Ok M141 177 (oS (gI2 f_iand) 178) := r_iand (by decide +kernel)
theorem k_141_178 : Ok M141 178 (oLI 3 179) := r_iload_n (j := 3) (by decide +kernel) rfl
theorem k_141_179 : Ok M141 179 (oLI 2 180) := r_iload_n (j := 2) (by decide +kernel) rfl
theorem k_141_180 : Ok M141 180 (oS (gKo (.int 1)) 181) := r_iconst (n := 1) (by decide +kernel) (by decide +kernel)
theorem k_141_181 : Ok M141 181 (oS (gI2 f_iadd) 182) := r_iadd (by decide +kernel)
theorem k_141_182 : Ok M141 182 (oS (gI2 f_ishr) 183) := r_ishr (by decide +kernel)
theorem k_141_183 : Ok M141 183 (oLI 2 184) := r_iload_n (j := 2) (by decide +kernel) rfl
theorem k_141_184 : Ok M141 184 (oS (gI2 f_ishl) 185) := r_ishl (by decide +kernel)
theorem k_141_185 : Ok M141 185 (oS (gI2 f_ior) 186) := r_ior (by decide +kernel)
theorem k_141_186 : Ok M141 186 (oAT 187) := r_iastore (by decide +kernel)
theorem k_141_187 : Ok M141 187 (oLA 0 188) := r_aload_n (j := 0) (by decide +kernel) rfl
theorem k_141_188 : Ok M141 188 (oGe 5 0 191) := r_get (idx := 7) (by decide +kernel) cd_5 0 (by decide) w_678 rfl
theorem k_141_191 : Ok M141 191 (oS (gKo (.int 1)) 192) := r_iconst (n := 1) (by decide +kernel) (by decide +kernel)
theorem k_141_192 : Ok M141 192 (oS gD2 193) := r_dup2 (by decide +kernel)
theorem k_141_193 : Ok M141 193 (oAI 194) := r_iaload (by decide +kernel)
theorem k_141_194 : Ok M141 194 (oS (gKo (.int 1)) 195) := r_iconst (n := 1) (by decide +kernel) (by decide +kernel)
theorem k_141_195 : Ok M141 195 (oS (gI2 f_isub) 196) := r_isub (by decide +kernel)
theorem k_141_196 : Ok M141 196 (oAT 197) := r_iastore (by decide +kernel)
theorem k_141_197 : Ok M141 197 (oLI 2 198) := r_iload_n (j := 2) (by decide +kernel) rfl
theorem k_141_198 : Ok M141 198 (oSI 4 6 200) := r_istore (by decide +kernel)
theorem k_141_200 : Ok M141 200 (oLI 4 202) := r_iload (by decide +kernel)
theorem k_141_202 : Ok M141 202 (oLA 0 203) := r_aload_n (j := 0) (by decide +kernel) rfl
theorem k_141_203 : Ok M141 203 (oGe 5 0 206) := r_get (idx := 7) (by decide +kernel) cd_5 0 (by decide) w_678 rfl
theorem k_141_206 : Ok M141 206 (oS (gKo (.int 1)) 207) := r_iconst (n := 1) (by decide +kernel) (by decide +kernel)
theorem k_141_207 : Ok M141 207 (oAI 208) := r_iaload (by decide +kernel)
theorem k_141_208 : Ok M141 208 (oB2 b_icmp_ge q_ge 281 211) := r_icmp_ge (off := 73) (by decide +kernel) (by decide +kernel)
theorem k_141_211 : Ok M141 211 (oLA 0 212) := r_aload_n (j := 0) (by decide +kernel) rfl
theorem k_141_212 : Ok M141 212 (oGe 5 0 215) := r_get (idx := 7) (by decide +kernel) cd_5 0 (by decide) w_678 rfl
theorem k_141_215 : Ok M141 215 (oS (gKo (.int 27)) 217) := r_bipush (n := 27) (by decide +kernel) (by decide +kernel)
theorem k_141_217 : Ok M141 217 (oLI 4 219) := r_iload (by decide +kernel)
theorem k_141_219 : Ok M141 219 (oS (gI2 f_iadd) 220) := r_iadd (by decide +kernel)
theorem k_141_220 : Ok M141 220 (oLA 0 221) := r_aload_n (j := 0) (by decide +kernel) rfl
theorem k_141_221 : Ok M141 221 (oGe 5 0 224) := r_get (idx := 7) (by decide +kernel) cd_5 0 (by decide) w_678 rfl
theorem k_141_224 : Ok M141 224 (oS (gKo (.int 27)) 226) := r_bipush (n := 27) (by decide +kernel) (by decide +kernel)
theorem k_141_226 : Ok M141 226 (oLI 4 228) := r_iload (by decide +kernel)
theorem k_141_228 : Ok M141 228 (oS (gI2 f_iadd) 229) := r_iadd (by decide +kernel)
theorem k_141_229 : Ok M141 229 (oS (gKo (.int 1)) 230) := r_iconst (n := 1) (by decide +kernel) (by decide +kernel)
theorem k_141_230 : Ok M141 230 (oS (gI2 f_iadd) 231) := r_iadd (by decide +kernel)
theorem k_141_231 : Ok M141 231 (oAI 232) := r_iaload (by decide +kernel)
theorem k_141_232 : Ok M141 232 (oAT 233) := r_iastore (by decide +kernel)
theorem k_141_233 : Ok M141 233 (oS (gKo (.int 0)) 234) := r_iconst (n := 0) (by decide +kernel) (by decide +kernel)
theorem k_141_234 : Ok M141 234 (oSI 5 6 236) := r_istore (by decide +kernel)
theorem k_141_236 : Ok M141 236 (oLI 5 238) := r_iload (by decide +kernel)
theorem k_141_238 : Ok M141 238 (oS (gKo (.int 6)) 240) := r_bipush (n := 6) (by decide +kernel) (by decide +kernel)
theorem k_141_240 : Ok M141 240 (oB2 b_icmp_ge q_ge 275 243) := r_icmp_ge (off := 35) (by decide +kernel) (by decide +kernel)
theorem k_141_243 : Ok M141 243 (oLA 0 244) := r_aload_n (j := 0) (by decide +kernel) rfl
theorem k_141_244 : Ok M141 244 (oGe 5 0 247) := r_get (idx := 7) (by decide +kernel) cd_5 0 (by decide) w_678 rfl
theorem k_141_247 : Ok M141 247 (oS (gKo (.int 31)) 249) := r_bipush (n := 31) (by decide +kernel) (by decide +kernel)
theorem k_141_249 : Ok M141 249 (oS (gKo (.int 6)) 251) := r_bipush (n := 6) (by decide +kernel) (by decide +kernel)
theorem k_141_251 : Ok M141 251 (oLI 4 253) := r_iload (by decide +kernel)
theorem k_141_253 : Ok M141 253 (oS (gI2 f_imul) 254) := r_imul (by decide +kernel)
theorem k_141_254 : Ok M141 254 (oS (gI2 f_iadd) 255) := r_iadd (by decide +kernel)
theorem k_141_255 : Ok M141 255 (oLI 5 257) := r_iload (by decide +kernel)
theorem k_141_257 : Ok M141 257 (oS (gI2 f_iadd) 258) := r_iadd (by decide +kernel)
theorem k_141_258 : Ok M141 258 (oLA 0 259) := r_aload_n (j := 0) (by decide +kernel) rfl
theorem k_141_259 : Ok M141 259 (oLI 4 261) := r_iload (by decide +kernel)
theorem k_141_261 : Ok M141 261 (oS (gKo (.int 1)) 262) := r_iconst (n := 1) (by decide +kernel) (by decide +kernel)
theorem k_141_262 : Ok M141 262 (oS (gI2 f_iadd) 263) := r_iadd (by decide +kernel)
theorem k_141_263 : Ok M141 263 (oLI 5 265) := r_iload (by decide +kernel)
theorem k_141_265 : Ok M141 265 (oCV 5 104 2) := r_callV (idx := 155) (by decide +kernel) w_885 cv_104
theorem k_141_268 : Ok M141 268 (oAT 269) := r_iastore (by decide +kernel)
theorem k_141_269 : Ok M141 269 (oInc 5 1 6 272) := r_iinc (n := 1) (by decide +kernel) (by decide +kernel)
theorem k_141_272 : Ok M141 272 (oGo 236) := r_goto (off := (-36)) (by decide +kernel) (by decide +kernel)
theorem k_141_275 : Ok M141 275 (oInc 4 1 6 278) := r_iinc (n := 1) (by decide +kernel) (by decide +kernel)
theorem k_141_278 : Ok M141 278 (oGo 200) := r_goto (off := (-78)) (by decide +kernel) (by decide +kernel)
theorem k_141_281 : Ok M141 281 (oLA 0 282) := r_aload_n (j := 0) (by decide +kernel) rfl
theorem k_141_282 : Ok M141 282 (oCV 5 118 0) := r_callV (idx := 126) (by decide +kernel) w_815 cv_118
theorem k_141_285 : Ok M141 285 (oLA 0 286) := r_aload_n (j := 0) (by decide +kernel) rfl
theorem k_141_286 : Ok M141 286 (oGe 5 0 289) := r_get (idx := 7) (by decide +kernel) cd_5 0 (by decide) w_678 rfl
theorem k_141_289 : Ok M141 289 (oS (gKo (.int 1)) 290) := r_iconst (n := 1) (by decide +kernel) (by decide +kernel)
theorem k_141_290 : Ok M141 290 (oAI 291) := r_iaload (by decide +kernel)
theorem k_141_291 : Ok M141 291 (oRI) := r_ireturn rfl (by decide +kernel)
def B141_0 : List (Nat × aO) := [(0, oLA 0 1), (1, oLI 1 2), (2, oCV 5 103 1), (5, oB1 b_if_eq q_eq 16 8), (8, oLA 0 9), (9, oLI 2 10), (10, oCV 5 103 1), (13, oB1 b_if_ne q_ne 23 16)]
theorem B141_0_ok : ∀ q ∈ B141_0, Ok M141 q.1 q.2 := List.forall_mem_cons.mpr ⟨k_141_0, List.forall_mem_cons.mpr ⟨k_141_1, List.forall_mem_cons.mpr ⟨k_141_2, List.forall_mem_cons.mpr ⟨k_141_5, List.forall_mem_cons.mpr ⟨k_141_8, List.forall_mem_cons.mpr ⟨k_141_9, List.forall_mem_cons.mpr ⟨k_141_10, List.forall_mem_cons.mpr ⟨k_141_13, fun _ h => absurd h List.not_mem_nil⟩⟩⟩⟩⟩⟩⟩⟩
def B141_1 : List (Nat × aO) := [(16, oLA 0 17), (17, oS (gKo (.int (-2))) 19), (19, oCV 5 99 1), (22, oRI), (23, oLI 1 24), (24, oLI 2 25), (25, oB2 b_icmp_ne q_ne 35 28), (28, oLA 0 29)]
theorem B141_1_ok : ∀ q ∈ B141_1, Ok M141 q.1 q.2 := List.forall_mem_cons.mpr ⟨k_141_16, List.forall_mem_cons.mpr ⟨k_141_17, List.forall_mem_cons.mpr ⟨k_141_19, List.forall_mem_cons.mpr ⟨k_141_22, List.forall_mem_cons.mpr ⟨k_141_23, List.forall_mem_cons.mpr ⟨k_141_24, List.forall_mem_cons.mpr ⟨k_141_25, List.forall_mem_cons.mpr ⟨k_141_28, fun _ h => absurd h List.not_mem_nil⟩⟩⟩⟩⟩⟩⟩⟩
def B141_2 : List (Nat × aO) := [(29, oS (gKo (.int (-3))) 31), (31, oCV 5 99 1), (34, oRI), (35, oLA 0 36), (36, oCV 5 101 0), (39, oLA 0 40), (40, oGe 5 0 43), (43, oS (gKo (.int 27)) 45)]
theorem B141_2_ok : ∀ q ∈ B141_2, Ok M141 q.1 q.2 := List.forall_mem_cons.mpr ⟨k_141_29, List.forall_mem_cons.mpr ⟨k_141_31, List.forall_mem_cons.mpr ⟨k_141_34, List.forall_mem_cons.mpr ⟨k_141_35, List.forall_mem_cons.mpr ⟨k_141_36, List.forall_mem_cons.mpr ⟨k_141_39, List.forall_mem_cons.mpr ⟨k_141_40, List.forall_mem_cons.mpr ⟨k_141_43, fun _ h => absurd h List.not_mem_nil⟩⟩⟩⟩⟩⟩⟩⟩
def B141_3 : List (Nat × aO) := [(45, oLI 1 46), (46, oS (gI2 f_iadd) 47), (47, oS (gKo (.int 999)) 50), (50, oLA 0 51), (51, oGe 5 0 54), (54, oS (gKo (.int 27)) 56), (56, oLI 1 57), (57, oS (gI2 f_iadd) 58)]
theorem B141_3_ok : ∀ q ∈ B141_3, Ok M141 q.1 q.2 := List.forall_mem_cons.mpr ⟨k_141_45, List.forall_mem_cons.mpr ⟨k_141_46, List.forall_mem_cons.mpr ⟨k_141_47, List.forall_mem_cons.mpr ⟨k_141_50, List.forall_mem_cons.mpr ⟨k_141_51, List.forall_mem_cons.mpr ⟨k_141_54, List.forall_mem_cons.mpr ⟨k_141_56, List.forall_mem_cons.mpr ⟨k_141_57, fun _ h => absurd h List.not_mem_nil⟩⟩⟩⟩⟩⟩⟩⟩
def B141_4 : List (Nat × aO) := [(58, oAI 59), (59, oLA 0 60), (60, oGe 5 0 63), (63, oS (gKo (.int 27)) 65), (65, oLI 2 66), (66, oS (gI2 f_iadd) 67), (67, oAI 68), (68, oS (gI2 f_iadd) 69)]
theorem B141_4_ok : ∀ q ∈ B141_4, Ok M141 q.1 q.2 := List.forall_mem_cons.mpr ⟨k_141_58, List.forall_mem_cons.mpr ⟨k_141_59, List.forall_mem_cons.mpr ⟨k_141_60, List.forall_mem_cons.mpr ⟨k_141_63, List.forall_mem_cons.mpr ⟨k_141_65, List.forall_mem_cons.mpr ⟨k_141_66, List.forall_mem_cons.mpr ⟨k_141_67, List.forall_mem_cons.mpr ⟨k_141_68, fun _ h => absurd h List.not_mem_nil⟩⟩⟩⟩⟩⟩⟩⟩
def B141_5 : List (Nat × aO) := [(69, oCS 139 2), (72, oAT 73), (73, oS (gKo (.int 0)) 74), (74, oSI 3 6 75), (75, oLI 3 76), (76, oLA 0 77), (77, oGe 5 0 80), (80, oS (gKo (.int 0)) 81)]
theorem B141_5_ok : ∀ q ∈ B141_5, Ok M141 q.1 q.2 := List.forall_mem_cons.mpr ⟨k_141_69, List.forall_mem_cons.mpr ⟨k_141_72, List.forall_mem_cons.mpr ⟨k_141_73, List.forall_mem_cons.mpr ⟨k_141_74, List.forall_mem_cons.mpr ⟨k_141_75, List.forall_mem_cons.mpr ⟨k_141_76, List.forall_mem_cons.mpr ⟨k_141_77, List.forall_mem_cons.mpr ⟨k_141_80, fun _ h => absurd h List.not_mem_nil⟩⟩⟩⟩⟩⟩⟩⟩
def B141_6 : List (Nat × aO) := [(81, oAI 82), (82, oB2 b_icmp_ge q_ge 135 85), (85, oLA 0 86), (86, oGe 5 0 89), (89, oS (gKo (.int 31)) 91), (91, oS (gKo (.int 6)) 93), (93, oLI 1 94), (94, oS (gI2 f_imul) 95)]
theorem B141_6_ok : ∀ q ∈ B141_6, Ok M141 q.1 q.2 := List.forall_mem_cons.mpr ⟨k_141_81, List.forall_mem_cons.mpr ⟨k_141_82, List.forall_mem_cons.mpr ⟨k_141_85, List.forall_mem_cons.mpr ⟨k_141_86, List.forall_mem_cons.mpr ⟨k_141_89, List.forall_mem_cons.mpr ⟨k_141_91, List.forall_mem_cons.mpr ⟨k_141_93, List.forall_mem_cons.mpr ⟨k_141_94, fun _ h => absurd h List.not_mem_nil⟩⟩⟩⟩⟩⟩⟩⟩
def B141_7 : List (Nat × aO) := [(95, oS (gI2 f_iadd) 96), (96, oLI 3 97), (97, oS (gI2 f_iadd) 98), (98, oLA 0 99), (99, oLI 1 100), (100, oLI 3 101), (101, oCV 5 104 2), (104, oLA 0 105)]
theorem B141_7_ok : ∀ q ∈ B141_7, Ok M141 q.1 q.2 := List.forall_mem_cons.mpr ⟨k_141_95, List.forall_mem_cons.mpr ⟨k_141_96, List.forall_mem_cons.mpr ⟨k_141_97, List.forall_mem_cons.mpr ⟨k_141_98, List.forall_mem_cons.mpr ⟨k_141_99, List.forall_mem_cons.mpr ⟨k_141_100, List.forall_mem_cons.mpr ⟨k_141_101, List.forall_mem_cons.mpr ⟨k_141_104, fun _ h => absurd h List.not_mem_nil⟩⟩⟩⟩⟩⟩⟩⟩
def B141_8 : List (Nat × aO) := [(105, oLI 2 106), (106, oLI 3 107), (107, oCV 5 104 2), (110, oB2 b_icmp_le q_le 122 113), (113, oLA 0 114), (114, oLI 1 115), (115, oLI 3 116), (116, oCV 5 104 2)]
theorem B141_8_ok : ∀ q ∈ B141_8, Ok M141 q.1 q.2 := List.forall_mem_cons.mpr ⟨k_141_105, List.forall_mem_cons.mpr ⟨k_141_106, List.forall_mem_cons.mpr ⟨k_141_107, List.forall_mem_cons.mpr ⟨k_141_110, List.forall_mem_cons.mpr ⟨k_141_113, List.forall_mem_cons.mpr ⟨k_141_114, List.forall_mem_cons.mpr ⟨k_141_115, List.forall_mem_cons.mpr ⟨k_141_116, fun _ h => absurd h List.not_mem_nil⟩⟩⟩⟩⟩⟩⟩⟩
def B141_9 : List (Nat × aO) := [(119, oGo 128), (122, oLA 0 123), (123, oLI 2 124), (124, oLI 3 125), (125, oCV 5 104 2), (128, oAT 129), (129, oInc 3 1 6 132), (132, oGo 75)]
theorem B141_9_ok : ∀ q ∈ B141_9, Ok M141 q.1 q.2 := List.forall_mem_cons.mpr ⟨k_141_119, List.forall_mem_cons.mpr ⟨k_141_122, List.forall_mem_cons.mpr ⟨k_141_123, List.forall_mem_cons.mpr ⟨k_141_124, List.forall_mem_cons.mpr ⟨k_141_125, List.forall_mem_cons.mpr ⟨k_141_128, List.forall_mem_cons.mpr ⟨k_141_129, List.forall_mem_cons.mpr ⟨k_141_132, fun _ h => absurd h List.not_mem_nil⟩⟩⟩⟩⟩⟩⟩⟩
def B141_10 : List (Nat × aO) := [(135, oLA 0 136), (136, oGe 5 0 139), (139, oS (gKo (.int 7)) 141), (141, oAI 142), (142, oLA 0 143), (143, oGe 5 0 146), (146, oS (gKo (.int 7)) 148), (148, oAI 149)]
theorem B141_10_ok : ∀ q ∈ B141_10, Ok M141 q.1 q.2 := List.forall_mem_cons.mpr ⟨k_141_135, List.forall_mem_cons.mpr ⟨k_141_136, List.forall_mem_cons.mpr ⟨k_141_139, List.forall_mem_cons.mpr ⟨k_141_141, List.forall_mem_cons.mpr ⟨k_141_142, List.forall_mem_cons.mpr ⟨k_141_143, List.forall_mem_cons.mpr ⟨k_141_146, List.forall_mem_cons.mpr ⟨k_141_148, fun _ h => absurd h List.not_mem_nil⟩⟩⟩⟩⟩⟩⟩⟩
def B141_11 : List (Nat × aO) := [(149, oLI 2 150), (150, oCS 97 2), (153, oB1 b_if_eq q_eq 162 156), (156, oS (gKo (.int 1)) 157), (157, oLI 1 158), (158, oS (gI2 f_ishl) 159), (159, oGo 163), (162, oS (gKo (.int 0)) 163)]
theorem B141_11_ok : ∀ q ∈ B141_11, Ok M141 q.1 q.2 := List.forall_mem_cons.mpr ⟨k_141_149, List.forall_mem_cons.mpr ⟨k_141_150, List.forall_mem_cons.mpr ⟨k_141_153, List.forall_mem_cons.mpr ⟨k_141_156, List.forall_mem_cons.mpr ⟨k_141_157, List.forall_mem_cons.mpr ⟨k_141_158, List.forall_mem_cons.mpr ⟨k_141_159, List.forall_mem_cons.mpr ⟨k_141_162, fun _ h => absurd h List.not_mem_nil⟩⟩⟩⟩⟩⟩⟩⟩
def B141_12 : List (Nat × aO) := [(163, oS (gI2 f_ior) 164), (164, oSI 3 6 165), (165, oLA 0 166), (166, oGe 5 0 169), (169, oS (gKo (.int 7)) 171), (171, oLI 3 172), (172, oS (gKo (.int 1)) 173), (173, oLI 2 174)]
theorem B141_12_ok : ∀ q ∈ B141_12, Ok M141 q.1 q.2 := List.forall_mem_cons.mpr ⟨k_141_163, List.forall_mem_cons.mpr ⟨k_141_164, List.forall_mem_cons.mpr ⟨k_141_165, List.forall_mem_cons.mpr ⟨k_141_166, List.forall_mem_cons.mpr ⟨k_141_169, List.forall_mem_cons.mpr ⟨k_141_171, List.forall_mem_cons.mpr ⟨k_141_172, List.forall_mem_cons.mpr ⟨k_141_173, fun _ h => absurd h List.not_mem_nil⟩⟩⟩⟩⟩⟩⟩⟩
def B141_13 : List (Nat × aO) := [(174, oS (gI2 f_ishl) 175), (175, oS (gKo (.int 1)) 176), (176, oS (gI2 f_isub) 177), (177, oS (gI2 f_iand) 178), (178, oLI 3 179), (179, oLI 2 180), (180, oS (gKo (.int 1)) 181), (181, oS (gI2 f_iadd) 182)]
theorem B141_13_ok : ∀ q ∈ B141_13, Ok M141 q.1 q.2 := List.forall_mem_cons.mpr ⟨k_141_174, List.forall_mem_cons.mpr ⟨k_141_175, List.forall_mem_cons.mpr ⟨k_141_176, List.forall_mem_cons.mpr ⟨k_141_177, List.forall_mem_cons.mpr ⟨k_141_178, List.forall_mem_cons.mpr ⟨k_141_179, List.forall_mem_cons.mpr ⟨k_141_180, List.forall_mem_cons.mpr ⟨k_141_181, fun _ h => absurd h List.not_mem_nil⟩⟩⟩⟩⟩⟩⟩⟩
def B141_14 : List (Nat × aO) := [(182, oS (gI2 f_ishr) 183), (183, oLI 2 184), (184, oS (gI2 f_ishl) 185), (185, oS (gI2 f_ior) 186), (186, oAT 187), (187, oLA 0 188), (188, oGe 5 0 191), (191, oS (gKo (.int 1)) 192)]
theorem B141_14_ok : ∀ q ∈ B141_14, Ok M141 q.1 q.2 := List.forall_mem_cons.mpr ⟨k_141_182, List.forall_mem_cons.mpr ⟨k_141_183, List.forall_mem_cons.mpr ⟨k_141_184, List.forall_mem_cons.mpr ⟨k_141_185, List.forall_mem_cons.mpr ⟨k_141_186, List.forall_mem_cons.mpr ⟨k_141_187, List.forall_mem_cons.mpr ⟨k_141_188, List.forall_mem_cons.mpr ⟨k_141_191, fun _ h => absurd h List.not_mem_nil⟩⟩⟩⟩⟩⟩⟩⟩
def B141_15 : List (Nat × aO) := [(192, oS gD2 193), (193, oAI 194), (194, oS (gKo (.int 1)) 195), (195, oS (gI2 f_isub) 196), (196, oAT 197), (197, oLI 2 198), (198, oSI 4 6 200), (200, oLI 4 202)]
theorem B141_15_ok : ∀ q ∈ B141_15, Ok M141 q.1 q.2 := List.forall_mem_cons.mpr ⟨k_141_192, List.forall_mem_cons.mpr ⟨k_141_193, List.forall_mem_cons.mpr ⟨k_141_194, List.forall_mem_cons.mpr ⟨k_141_195, List.forall_mem_cons.mpr ⟨k_141_196, List.forall_mem_cons.mpr ⟨k_141_197, List.forall_mem_cons.mpr ⟨k_141_198, List.forall_mem_cons.mpr ⟨k_141_200, fun _ h => absurd h List.not_mem_nil⟩⟩⟩⟩⟩⟩⟩⟩
def B141_16 : List (Nat × aO) := [(202, oLA 0 203), (203, oGe 5 0 206), (206, oS (gKo (.int 1)) 207), (207, oAI 208), (208, oB2 b_icmp_ge q_ge 281 211), (211, oLA 0 212), (212, oGe 5 0 215), (215, oS (gKo (.int 27)) 217)]
theorem B141_16_ok : ∀ q ∈ B141_16, Ok M141 q.1 q.2 := List.forall_mem_cons.mpr ⟨k_141_202, List.forall_mem_cons.mpr ⟨k_141_203, List.forall_mem_cons.mpr ⟨k_141_206, List.forall_mem_cons.mpr ⟨k_141_207, List.forall_mem_cons.mpr ⟨k_141_208, List.forall_mem_cons.mpr ⟨k_141_211, List.forall_mem_cons.mpr ⟨k_141_212, List.forall_mem_cons.mpr ⟨k_141_215, fun _ h => absurd h List.not_mem_nil⟩⟩⟩⟩⟩⟩⟩⟩
def B141_17 : List (Nat × aO) := [(217, oLI 4 219), (219, oS (gI2 f_iadd) 220), (220, oLA 0 221), (221, oGe 5 0 224), (224, oS (gKo (.int 27)) 226), (226, oLI 4 228), (228, oS (gI2 f_iadd) 229), (229, oS (gKo (.int 1)) 230)]
theorem B141_17_ok : ∀ q ∈ B141_17, Ok M141 q.1 q.2 := List.forall_mem_cons.mpr ⟨k_141_217, List.forall_mem_cons.mpr ⟨k_141_219, List.forall_mem_cons.mpr ⟨k_141_220, List.forall_mem_cons.mpr ⟨k_141_221, List.forall_mem_cons.mpr ⟨k_141_224, List.forall_mem_cons.mpr ⟨k_141_226, List.forall_mem_cons.mpr ⟨k_141_228, List.forall_mem_cons.mpr ⟨k_141_229, fun _ h => absurd h List.not_mem_nil⟩⟩⟩⟩⟩⟩⟩⟩
def B141_18 : List (Nat × aO) := [(230, oS (gI2 f_iadd) 231), (231, oAI 232), (232, oAT 233), (233, oS (gKo (.int 0)) 234), (234, oSI 5 6 236), (236, oLI 5 238), (238, oS (gKo (.int 6)) 240), (240, oB2 b_icmp_ge q_ge 275 243)]
theorem B141_18_ok : ∀ q ∈ B141_18, Ok M141 q.1 q.2 := List.forall_mem_cons.mpr ⟨k_141_230, List.forall_mem_cons.mpr ⟨k_141_231, List.forall_mem_cons.mpr ⟨k_141_232, List.forall_mem_cons.mpr ⟨k_141_233, List.forall_mem_cons.mpr ⟨k_141_234, List.forall_mem_cons.mpr ⟨k_141_236, List.forall_mem_cons.mpr ⟨k_141_238, List.forall_mem_cons.mpr ⟨k_141_240, fun _ h => absurd h List.not_mem_nil⟩⟩⟩⟩⟩⟩⟩⟩
def B141_19 : List (Nat × aO) := [(243, oLA 0 244), (244, oGe 5 0 247), (247, oS (gKo (.int 31)) 249), (249, oS (gKo (.int 6)) 251), (251, oLI 4 253), (253, oS (gI2 f_imul) 254), (254, oS (gI2 f_iadd) 255), (255, oLI 5 257)]
theorem B141_19_ok : ∀ q ∈ B141_19, Ok M141 q.1 q.2 := List.forall_mem_cons.mpr ⟨k_141_243, List.forall_mem_cons.mpr ⟨k_141_244, List.forall_mem_cons.mpr ⟨k_141_247, List.forall_mem_cons.mpr ⟨k_141_249, List.forall_mem_cons.mpr ⟨k_141_251, List.forall_mem_cons.mpr ⟨k_141_253, List.forall_mem_cons.mpr ⟨k_141_254, List.forall_mem_cons.mpr ⟨k_141_255, fun _ h => absurd h List.not_mem_nil⟩⟩⟩⟩⟩⟩⟩⟩
def B141_20 : List (Nat × aO) := [(257, oS (gI2 f_iadd) 258), (258, oLA 0 259), (259, oLI 4 261), (261, oS (gKo (.int 1)) 262), (262, oS (gI2 f_iadd) 263), (263, oLI 5 265), (265, oCV 5 104 2), (268, oAT 269)]
theorem B141_20_ok : ∀ q ∈ B141_20, Ok M141 q.1 q.2 := List.forall_mem_cons.mpr ⟨k_141_257, List.forall_mem_cons.mpr ⟨k_141_258, List.forall_mem_cons.mpr ⟨k_141_259, List.forall_mem_cons.mpr ⟨k_141_261, List.forall_mem_cons.mpr ⟨k_141_262, List.forall_mem_cons.mpr ⟨k_141_263, List.forall_mem_cons.mpr ⟨k_141_265, List.forall_mem_cons.mpr ⟨k_141_268, fun _ h => absurd h List.not_mem_nil⟩⟩⟩⟩⟩⟩⟩⟩
def B141_21 : List (Nat × aO) := [(269, oInc 5 1 6 272), (272, oGo 236), (275, oInc 4 1 6 278), (278, oGo 200), (281, oLA 0 282), (282, oCV 5 118 0), (285, oLA 0 286), (286, oGe 5 0 289)]
theorem B141_21_ok : ∀ q ∈ B141_21, Ok M141 q.1 q.2 := List.forall_mem_cons.mpr ⟨k_141_269, List.forall_mem_cons.mpr ⟨k_141_272, List.forall_mem_cons.mpr ⟨k_141_275, List.forall_mem_cons.mpr ⟨k_141_278, List.forall_mem_cons.mpr ⟨k_141_281, List.forall_mem_cons.mpr ⟨k_141_282, List.forall_mem_cons.mpr ⟨k_141_285, List.forall_mem_cons.mpr ⟨k_141_286, fun _ h => absurd h List.not_mem_nil⟩⟩⟩⟩⟩⟩⟩⟩
def B141_22 : List (Nat × aO) := [(289, oS (gKo (.int 1)) 290), (290, oAI 291), (291, oRI)]
theorem B141_22_ok : ∀ q ∈ B141_22, Ok M141 q.1 q.2 := List.forall_mem_cons.mpr ⟨k_141_289, List.forall_mem_cons.mpr ⟨k_141_290, List.forall_mem_cons.mpr ⟨k_141_291, fun _ h => absurd h List.not_mem_nil⟩⟩⟩
def P141 : List (Nat × List (Nat × aO)) := [(13, B141_0), (28, B141_1), (43, B141_2), (57, B141_3), (68, B141_4), (80, B141_5), (94, B141_6), (104, B141_7), (116, B141_8), (132, B141_9), (148, B141_10), (162, B141_11), (173, B141_12), (181, B141_13), (191, B141_14), (200, B141_15), (215, B141_16), (229, B141_17), (240, B141_18), (255, B141_19), (268, B141_20), (286, B141_21), (291, B141_22)]
theorem P141_ok : ∀ b ∈ P141, ∀ q ∈ b.2, Ok M141 q.1 q.2 := List.forall_mem_cons.mpr ⟨B141_0_ok, List.forall_mem_cons.mpr ⟨B141_1_ok, List.forall_mem_cons.mpr ⟨B141_2_ok, List.forall_mem_cons.mpr ⟨B141_3_ok, List.forall_mem_cons.mpr ⟨B141_4_ok, List.forall_mem_cons.mpr ⟨B141_5_ok, List.forall_mem_cons.mpr ⟨B141_6_ok, List.forall_mem_cons.mpr ⟨B141_7_ok, List.forall_mem_cons.mpr ⟨B141_8_ok, List.forall_mem_cons.mpr ⟨B141_9_ok, List.forall_mem_cons.mpr ⟨B141_10_ok, List.forall_mem_cons.mpr ⟨B141_11_ok, List.forall_mem_cons.mpr ⟨B141_12_ok, List.forall_mem_cons.mpr ⟨B141_13_ok, List.forall_mem_cons.mpr ⟨B141_14_ok, List.forall_mem_cons.mpr ⟨B141_15_ok, List.forall_mem_cons.mpr ⟨B141_16_ok, List.forall_mem_cons.mpr ⟨B141_17_ok, List.forall_mem_cons.mpr ⟨B141_18_ok, List.forall_mem_cons.mpr ⟨B141_19_ok, List.forall_mem_cons.mpr ⟨B141_20_ok, List.forall_mem_cons.mpr ⟨B141_21_ok, List.forall_mem_cons.mpr ⟨B141_22_ok, fun _ h => absurd h List.not_mem_nil⟩⟩⟩⟩⟩⟩⟩⟩⟩⟩⟩⟩⟩⟩⟩⟩⟩⟩⟩⟩⟩⟩⟩
