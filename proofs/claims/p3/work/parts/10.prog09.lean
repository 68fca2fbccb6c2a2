theorem k_152_0 : Ok M152 0 (oS (gKo (.int 0)) 1) := r_iconst (n := 0) (by decide +kernel) (by decide +kernel)
theorem k_152_1 : Ok M152 1 (oSI 2 4 2) := r_istore_n (j := 2) (by decide +kernel) rfl
theorem k_152_2 : Ok M152 2 (oLI 2 3) := r_iload_n (j := 2) (by decide +kernel) rfl
theorem k_152_3 : Ok M152 3 (oS (gKo (.int 64)) 5) := r_bipush (n := 64) (by decide +kernel) (by decide +kernel)
theorem k_152_5 : Ok M152 5 (oB2 b_icmp_ge q_ge 21 8) := r_icmp_ge (off := 16) (by decide +kernel) (by decide +kernel)
theorem k_152_8 : Ok M152 8 (oLA 0 9) := r_aload_n (j := 0) (by decide +kernel) rfl
theorem k_152_9 : Ok M152 9 (oGe 5 14 12) := r_get (idx := 28) (by decide +kernel) cd_5 14 (by decide) w_692 rfl
theorem k_152_12 : Ok M152 12 (oLI 2 13) := r_iload_n (j := 2) (by decide +kernel) rfl
theorem k_152_13 : Ok M152 13 (oS (gKo (.int 0)) 14) := r_iconst (n := 0) (by decide +kernel) (by decide +kernel)
theorem k_152_14 : Ok M152 14 (oAT 15) := r_iastore (by decide +kernel)
theorem k_152_15 : Ok M152 15 (oInc 2 1 4 18) := r_iinc (n := 1) (by decide +kernel) (by decide +kernel)
theorem k_152_18 : Ok M152 18 (oGo 2) := r_goto (off := (-16)) (by decide +kernel) (by decide +kernel)
theorem k_152_21 : Ok M152 21 (oS (gKo (.int 1)) 22) := r_iconst (n := 1) (by decide +kernel) (by decide +kernel)
theorem k_152_22 : Ok M152 22 (oSI 2 4 23) := r_istore_n (j := 2) (by decide +kernel) rfl
theorem k_152_23 : Ok M152 23 (oLI 2 24) := r_iload_n (j := 2) (by decide +kernel) rfl
theorem k_152_24 : Ok M152 24 (oLI 1 25) := r_iload_n (j := 1) (by decide +kernel) rfl
theorem k_152_25 : Ok M152 25 (oB2 b_icmp_gt q_gt 78 28) := r_icmp_gt (off := 53) (by decide +kernel) (by decide +kernel)
theorem k_152_28 : Ok M152 28 (oLI 2 29) := r_iload_n (j := 2) (by decide +kernel) rfl
theorem k_152_29 : Ok M152 29 (oLI 1 30) := r_iload_n (j := 1) (by decide +kernel) rfl
theorem k_152_30 : Ok M152 30 (oS (gKo (.int (-1))) 31) := r_iconst (n := (-1)) (by decide +kernel) (by decide +kernel)
theorem k_152_31 : Ok M152 31 (oS (gI2 f_ixor) 32) := r_ixor (by decide +kernel)
theorem k_152_32 : Ok M152 32 (oS (gI2 f_iand) 33) := r_iand (by decide +kernel)
theorem k_152_33 : Ok M152 33 (oB1 b_if_ne q_ne 72 36) := r_if_ne (off := 39) (by decide +kernel) (by decide +kernel)
theorem k_152_36 : Ok M152 36 (oLA 0 37) := r_aload_n (j := 0) (by decide +kernel) rfl
theorem k_152_37 : Ok M152 37 (oLI 2 38) := r_iload_n (j := 2) (by decide +kernel) rfl
theorem k_152_38 : Ok M152 38 (oCV 5 151 1) := r_callV (idx := 224) (by decide +kernel) w_963 cv_151
theorem k_152_41 : Ok M152 41 (oS (gKo (.int 0)) 42) := r_iconst (n := 0) (by decide +kernel) (by decide +kernel)
theorem k_152_42 : Ok M152 42 (oSI 3 4 43) := r_istore_n (j := 3) (by decide +kernel) rfl
theorem k_152_43 : Ok M152 43 (oLI 3 44) := r_iload_n (j := 3) (by decide +kernel) rfl
theorem k_152_44 : Ok M152 44 (oS (gKo (.int 64)) 46) := r_bipush (n := 64) (by decide +kernel) (by decide +kernel)
theorem k_152_46 : Ok M152 46 (oB2 b_icmp_ge q_ge 72 49) := r_icmp_ge (off := 26) (by decide +kernel) (by decide +kernel)
theorem k_152_49 : Ok M152 49 (oLA 0 50) := r_aload_n (j := 0) (by decide +kernel) rfl
theorem k_152_50 : Ok M152 50 (oGe 5 14 53) := r_get (idx := 28) (by decide +kernel) cd_5 14 (by decide) w_692 rfl
theorem k_152_53 : Ok M152 53 (oS (gKo (.int 64)) 55) := r_bipush (n := 64) (by decide +kernel) (by decide +kernel)
theorem k_152_55 : Ok M152 55 (oLI 2 56) := r_iload_n (j := 2) (by decide +kernel) rfl
theorem k_152_56 : Ok M152 56 (oS (gI2 f_imul) 57) := r_imul (by decide +kernel)
theorem k_152_57 : Ok M152 57 (oLI 3 58) := r_iload_n (j := 3) (by decide +kernel) rfl
theorem k_152_58 : Ok M152 58 (oS (gI2 f_iadd) 59) := r_iadd (by decide +kernel)
theorem k_152_59 : Ok M152 59 (oLA 0 60) := r_aload_n (j := 0) (by decide +kernel) rfl
theorem k_152_60 : Ok M152 60 (oGe 5 15 63) := r_get (idx := 31) (by decide +kernel) cd_5 15 (by decide) w_693 rfl
theorem k_152_63 : Ok M152 63 (oLI 3 64) := r_iload_n (j := 3) (by decide +kernel) rfl
theorem k_152_64 : Ok M152 64 (oAI 65) := r_iaload (by decide +kernel)
theorem k_152_65 : Ok M152 65 (oAT 66) := r_iastore (by decide +kernel)
theorem k_152_66 : Ok M152 66 (oInc 3 1 4 69) := r_iinc (n := 1) (by decide +kernel) (by decide +kernel)
theorem k_152_69 : Ok M152 69 (oGo 43) := r_goto (off := (-26)) (by decide +kernel) (by decide +kernel)
theorem k_152_72 : Ok M152 72 (oInc 2 1 4 75) := r_iinc (n := 1) (by decide +kernel) (by decide +kernel)
theorem k_152_75 : Ok M152 75 (oGo 23) := r_goto (off := (-52)) (by decide +kernel) (by decide +kernel)
theorem k_152_78 : Ok M152 78 (oRV) := r_return rfl (by decide +kernel)
def B152_0 : List (Nat × aO) := [(0, oS (gKo (.int 0)) 1), (1, oSI 2 4 2), (2, oLI 2 3), (3, oS (gKo (.int 64)) 5), (5, oB2 b_icmp_ge q_ge 21 8), (8, oLA 0 9), (9, oGe 5 14 12), (12, oLI 2 13)]
theorem B152_0_ok : ∀ q ∈ B152_0, Ok M152 q.1 q.2 := List.forall_mem_cons.mpr ⟨k_152_0, List.forall_mem_cons.mpr ⟨k_152_1, List.forall_mem_cons.mpr ⟨k_152_2, List.forall_mem_cons.mpr ⟨k_152_3, List.forall_mem_cons.mpr ⟨k_152_5, List.forall_mem_cons.mpr ⟨k_152_8, List.forall_mem_cons.mpr ⟨k_152_9, List.forall_mem_cons.mpr ⟨k_152_12, fun _ h => absurd h List.not_mem_nil⟩⟩⟩⟩⟩⟩⟩⟩
def B152_1 : List (Nat × aO) := [(13, oS (gKo (.int 0)) 14), (14, oAT 15), (15, oInc 2 1 4 18), (18, oGo 2), (21, oS (gKo (.int 1)) 22), (22, oSI 2 4 23), (23, oLI 2 24), (24, oLI 1 25)]
theorem B152_1_ok : ∀ q ∈ B152_1, Ok M152 q.1 q.2 := List.forall_mem_cons.mpr ⟨k_152_13, List.forall_mem_cons.mpr ⟨k_152_14, List.forall_mem_cons.mpr ⟨k_152_15, List.forall_mem_cons.mpr ⟨k_152_18, List.forall_mem_cons.mpr ⟨k_152_21, List.forall_mem_cons.mpr ⟨k_152_22, List.forall_mem_cons.mpr ⟨k_152_23, List.forall_mem_cons.mpr ⟨k_152_24, fun _ h => absurd h List.not_mem_nil⟩⟩⟩⟩⟩⟩⟩⟩
def B152_2 : List (Nat × aO) := [(25, oB2 b_icmp_gt q_gt 78 28), (28, oLI 2 29), (29, oLI 1 30), (30, oS (gKo (.int (-1))) 31), (31, oS (gI2 f_ixor) 32), (32, oS (gI2 f_iand) 33), (33, oB1 b_if_ne q_ne 72 36), (36, oLA 0 37)]
theorem B152_2_ok : ∀ q ∈ B152_2, Ok M152 q.1 q.2 := List.forall_mem_cons.mpr ⟨k_152_25, List.forall_mem_cons.mpr ⟨k_152_28, List.forall_mem_cons.mpr ⟨k_152_29, List.forall_mem_cons.mpr ⟨k_152_30, List.forall_mem_cons.mpr ⟨k_152_31, List.forall_mem_cons.mpr ⟨k_152_32, List.forall_mem_cons.mpr ⟨k_152_33, List.forall_mem_cons.mpr ⟨k_152_36, fun _ h => absurd h List.not_mem_nil⟩⟩⟩⟩⟩⟩⟩⟩
def B152_3 : List (Nat × aO) := [(37, oLI 2 38), (38, oCV 5 151 1), (41, oS (gKo (.int 0)) 42), (42, oSI 3 4 43), (43, oLI 3 44), (44, oS (gKo (.int 64)) 46), (46, oB2 b_icmp_ge q_ge 72 49), (49, oLA 0 50)]
theorem B152_3_ok : ∀ q ∈ B152_3, Ok M152 q.1 q.2 := List.forall_mem_cons.mpr ⟨k_152_37, List.forall_mem_cons.mpr ⟨k_152_38, List.forall_mem_cons.mpr ⟨k_152_41, List.forall_mem_cons.mpr ⟨k_152_42, List.forall_mem_cons.mpr ⟨k_152_43, List.forall_mem_cons.mpr ⟨k_152_44, List.forall_mem_cons.mpr ⟨k_152_46, List.forall_mem_cons.mpr ⟨k_152_49, fun _ h => absurd h List.not_mem_nil⟩⟩⟩⟩⟩⟩⟩⟩
def B152_4 : List (Nat × aO) := [(50, oGe 5 14 53), (53, oS (gKo (.int 64)) 55), (55, oLI 2 56), (56, oS (gI2 f_imul) 57), (57, oLI 3 58), (58, oS (gI2 f_iadd) 59), (59, oLA 0 60), (60, oGe 5 15 63)]
theorem B152_4_ok : ∀ q ∈ B152_4, Ok M152 q.1 q.2 := List.forall_mem_cons.mpr ⟨k_152_50, List.forall_mem_cons.mpr ⟨k_152_53, List.forall_mem_cons.mpr ⟨k_152_55, List.forall_mem_cons.mpr ⟨k_152_56, List.forall_mem_cons.mpr ⟨k_152_57, List.forall_mem_cons.mpr ⟨k_152_58, List.forall_mem_cons.mpr ⟨k_152_59, List.forall_mem_cons.mpr ⟨k_152_60, fun _ h => absurd h List.not_mem_nil⟩⟩⟩⟩⟩⟩⟩⟩
def B152_5 : List (Nat × aO) := [(63, oLI 3 64), (64, oAI 65), (65, oAT 66), (66, oInc 3 1 4 69), (69, oGo 43), (72, oInc 2 1 4 75), (75, oGo 23), (78, oRV)]
theorem B152_5_ok : ∀ q ∈ B152_5, Ok M152 q.1 q.2 := List.forall_mem_cons.mpr ⟨k_152_63, List.forall_mem_cons.mpr ⟨k_152_64, List.forall_mem_cons.mpr ⟨k_152_65, List.forall_mem_cons.mpr ⟨k_152_66, List.forall_mem_cons.mpr ⟨k_152_69, List.forall_mem_cons.mpr ⟨k_152_72, List.forall_mem_cons.mpr ⟨k_152_75, List.forall_mem_cons.mpr ⟨k_152_78, fun _ h => absurd h List.not_mem_nil⟩⟩⟩⟩⟩⟩⟩⟩
def P152 : List (Nat × List (Nat × aO)) := [(12, B152_0), (24, B152_1), (36, B152_2), (49, B152_3), (60, B152_4), (78, B152_5)]
theorem P152_ok : ∀ b ∈ P152, ∀ q ∈ b.2, Ok M152 q.1 q.2 := List.forall_mem_cons.mpr ⟨B152_0_ok, List.forall_mem_cons.mpr ⟨B152_1_ok, List.forall_mem_cons.mpr ⟨B152_2_ok, List.forall_mem_cons.mpr ⟨B152_3_ok, List.forall_mem_cons.mpr ⟨B152_4_ok, List.forall_mem_cons.mpr ⟨B152_5_ok, fun _ h => absurd h List.not_mem_nil⟩⟩⟩⟩⟩⟩
theorem k_153_0 : Ok M153 0 (oLA 0 1) := r_aload_n (j := 0) (by decide +kernel) rfl
theorem k_153_1 : Ok M153 1 (oLA 0 2) := r_aload_n (j := 0) (by decide +kernel) rfl
theorem k_153_2 : Ok M153 2 (oGe 5 0 5) := r_get (idx := 7) (by decide +kernel) cd_5 0 (by decide) w_678 rfl
theorem k_153_5 : Ok M153 5 (oS (gKo (.int 4)) 6) := r_iconst (n := 4) (by decide +kernel) (by decide +kernel)
theorem k_153_6 : Ok M153 6 (oAI 7) := r_iaload (by decide +kernel)
theorem k_153_7 : Ok M153 7 (oCV 5 126 1) := r_callV (idx := 152) (by decide +kernel) w_836 cv_126
theorem k_153_10 : Ok M153 10 (oS (gKo (.int (-1))) 11) := r_iconst (n := (-1)) (by decide +kernel) (by decide +kernel)
theorem k_153_11 : Ok M153 11 (oB2 b_icmp_eq q_eq 18 14) := r_icmp_eq (off := 7) (by decide +kernel) (by decide +kernel)
theorem k_153_14 : Ok M153 14 (oS (gKo (.int 1)) 15) := r_iconst (n := 1) (by decide +kernel) (by decide +kernel)
theorem k_153_15 : Ok M153 15 (oGo 19) := r_goto (off := 4) (by decide +kernel) (by decide +kernel)
theorem k_153_18 : Ok M153 18 (oS (gKo (.int 0)) 19) := r_iconst (n := 0) (by decide +kernel) (by decide +kernel)
theorem k_153_19 : Ok M153 19 (oRZ) := r_zreturn rfl (by decide +kernel)
def B153_0 : List (Nat × aO) := [(0, oLA 0 1), (1, oLA 0 2), (2, oGe 5 0 5), (5, oS (gKo (.int 4)) 6), (6, oAI 7), (7, oCV 5 126 1), (10, oS (gKo (.int (-1))) 11), (11, oB2 b_icmp_eq q_eq 18 14)]
theorem B153_0_ok : ∀ q ∈ B153_0, Ok M153 q.1 q.2 := List.forall_mem_cons.mpr ⟨k_153_0, List.forall_mem_cons.mpr ⟨k_153_1, List.forall_mem_cons.mpr ⟨k_153_2, List.forall_mem_cons.mpr ⟨k_153_5, List.forall_mem_cons.mpr ⟨k_153_6, List.forall_mem_cons.mpr ⟨k_153_7, List.forall_mem_cons.mpr ⟨k_153_10, List.forall_mem_cons.mpr ⟨k_153_11, fun _ h => absurd h List.not_mem_nil⟩⟩⟩⟩⟩⟩⟩⟩
def B153_1 : List (Nat × aO) := [(14, oS (gKo (.int 1)) 15), (15, oGo 19), (18, oS (gKo (.int 0)) 19), (19, oRZ)]
theorem B153_1_ok : ∀ q ∈ B153_1, Ok M153 q.1 q.2 := List.forall_mem_cons.mpr ⟨k_153_14, List.forall_mem_cons.mpr ⟨k_153_15, List.forall_mem_cons.mpr ⟨k_153_18, List.forall_mem_cons.mpr ⟨k_153_19, fun _ h => absurd h List.not_mem_nil⟩⟩⟩⟩
def P153 : List (Nat × List (Nat × aO)) := [(11, B153_0), (19, B153_1)]
theorem P153_ok : ∀ b ∈ P153, ∀ q ∈ b.2, Ok M153 q.1 q.2 := List.forall_mem_cons.mpr ⟨B153_0_ok, List.forall_mem_cons.mpr ⟨B153_1_ok, fun _ h => absurd h List.not_mem_nil⟩⟩
theorem k_154_0 : Ok M154 0 (oLA 0 1) := r_aload_n (j := 0) (by decide +kernel) rfl
theorem k_154_1 : Ok M154 1 (oCV 5 142 0) := r_callV (idx := 191) (by decide +kernel) w_935 cv_142
theorem k_154_4 : Ok M154 4 (oSI 3 4 5) := r_istore_n (j := 3) (by decide +kernel) rfl
theorem k_154_5 : Ok M154 5 (oLA 0 6) := r_aload_n (j := 0) (by decide +kernel) rfl
theorem k_154_6 : Ok M154 6 (oCV 5 153 0) := r_callV (idx := 227) (by decide +kernel) w_955 cv_153
theorem k_154_9 : Ok M154 9 (oB1 b_if_ne q_ne 18 12) := r_if_ne (off := 9) (by decide +kernel) (by decide +kernel)
theorem k_154_12 : Ok M154 12 (oLA 0 13) := r_aload_n (j := 0) (by decide +kernel) rfl
theorem k_154_13 : Ok M154 13 (oLI 1 14) := r_iload_n (j := 1) (by decide +kernel) rfl
theorem k_154_14 : Ok M154 14 (oCV 5 129 1) := r_callV (idx := 165) (by decide +kernel) w_881 cv_129
theorem k_154_17 : Ok M154 17 (oRI) := r_ireturn rfl (by decide +kernel)
theorem k_154_18 : Ok M154 18 (oLA 0 19) := r_aload_n (j := 0) (by decide +kernel) rfl
theorem k_154_19 : Ok M154 19 (oLI 3 20) := r_iload_n (j := 3) (by decide +kernel) rfl
theorem k_154_20 : Ok M154 20 (oCV 5 152 1) := r_callV (idx := 230) (by decide +kernel) w_959 cv_152
theorem k_154_23 : Ok M154 23 (oLA 0 24) := r_aload_n (j := 0) (by decide +kernel) rfl
theorem k_154_24 : Ok M154 24 (oLI 1 25) := r_iload_n (j := 1) (by decide +kernel) rfl
theorem k_154_25 : Ok M154 25 (oCV 5 129 1) := r_callV (idx := 165) (by decide +kernel) w_881 cv_129
theorem k_154_28 : Ok M154 28 (oLA 0 29) := r_aload_n (j := 0) (by decide +kernel) rfl
theorem k_154_29 : Ok M154 29 (oGe 5 15 32) := r_get (idx := 31) (by decide +kernel) cd_5 15 (by decide) w_693 rfl
theorem k_154_32 : Ok M154 32 (oLA 0 33) := r_aload_n (j := 0) (by decide +kernel) rfl
theorem k_154_33 : Ok M154 33 (oGe 5 0 36) := r_get (idx := 7) (by decide +kernel) cd_5 0 (by decide) w_678 rfl
theorem k_154_36 : Ok M154 36 (oS (gKo (.int 3)) 37) := r_iconst (n := 3) (by decide +kernel) (by decide +kernel)
theorem k_154_37 : Ok M154 37 (oAI 38) := r_iaload (by decide +kernel)
theorem k_154_38 : Ok M154 38 (oLI 2 39) := r_iload_n (j := 2) (by decide +kernel) rfl
theorem k_154_39 : Ok M154 39 (oCS 147 2) := r_callS (idx := 203) (by decide +kernel) w_982 cs_147
theorem k_154_42 : Ok M154 42 (oLI 1 43) := r_iload_n (j := 1) (by decide +kernel) rfl
theorem k_154_43 : Ok M154 43 (oS (gI2 f_iadd) 44) := r_iadd (by decide +kernel)
theorem k_154_44 : Ok M154 44 (oAI 45) := r_iaload (by decide +kernel)
theorem k_154_45 : Ok M154 45 (oS (gI2 f_iadd) 46) := r_iadd (by decide +kernel)
theorem k_154_46 : Ok M154 46 (oRI) := r_ireturn rfl (by decide +kernel)
def B154_0 : List (Nat × aO) := [(0, oLA 0 1), (1, oCV 5 142 0), (4, oSI 3 4 5), (5, oLA 0 6), (6, oCV 5 153 0), (9, oB1 b_if_ne q_ne 18 12), (12, oLA 0 13), (13, oLI 1 14)]
theorem B154_0_ok : ∀ q ∈ B154_0, Ok M154 q.1 q.2 := List.forall_mem_cons.mpr ⟨k_154_0, List.forall_mem_cons.mpr ⟨k_154_1, List.forall_mem_cons.mpr ⟨k_154_4, List.forall_mem_cons.mpr ⟨k_154_5, List.forall_mem_cons.mpr ⟨k_154_6, List.forall_mem_cons.mpr ⟨k_154_9, List.forall_mem_cons.mpr ⟨k_154_12, List.forall_mem_cons.mpr ⟨k_154_13, fun _ h => absurd h List.not_mem_nil⟩⟩⟩⟩⟩⟩⟩⟩
def B154_1 : List (Nat × aO) := [(14, oCV 5 129 1), (17, oRI), (18, oLA 0 19), (19, oLI 3 20), (20, oCV 5 152 1), (23, oLA 0 24), (24, oLI 1 25), (25, oCV 5 129 1)]
theorem B154_1_ok : ∀ q ∈ B154_1, Ok M154 q.1 q.2 := List.forall_mem_cons.mpr ⟨k_154_14, List.forall_mem_cons.mpr ⟨k_154_17, List.forall_mem_cons.mpr ⟨k_154_18, List.forall_mem_cons.mpr ⟨k_154_19, List.forall_mem_cons.mpr ⟨k_154_20, List.forall_mem_cons.mpr ⟨k_154_23, List.forall_mem_cons.mpr ⟨k_154_24, List.forall_mem_cons.mpr ⟨k_154_25, fun _ h => absurd h List.not_mem_nil⟩⟩⟩⟩⟩⟩⟩⟩
def B154_2 : List (Nat × aO) := [(28, oLA 0 29), (29, oGe 5 15 32), (32, oLA 0 33), (33, oGe 5 0 36), (36, oS (gKo (.int 3)) 37), (37, oAI 38), (38, oLI 2 39), (39, oCS 147 2)]
theorem B154_2_ok : ∀ q ∈ B154_2, Ok M154 q.1 q.2 := List.forall_mem_cons.mpr ⟨k_154_28, List.forall_mem_cons.mpr ⟨k_154_29, List.forall_mem_cons.mpr ⟨k_154_32, List.forall_mem_cons.mpr ⟨k_154_33, List.forall_mem_cons.mpr ⟨k_154_36, List.forall_mem_cons.mpr ⟨k_154_37, List.forall_mem_cons.mpr ⟨k_154_38, List.forall_mem_cons.mpr ⟨k_154_39, fun _ h => absurd h List.not_mem_nil⟩⟩⟩⟩⟩⟩⟩⟩
def B154_3 : List (Nat × aO) := [(42, oLI 1 43), (43, oS (gI2 f_iadd) 44), (44, oAI 45), (45, oS (gI2 f_iadd) 46), (46, oRI)]
theorem B154_3_ok : ∀ q ∈ B154_3, Ok M154 q.1 q.2 := List.forall_mem_cons.mpr ⟨k_154_42, List.forall_mem_cons.mpr ⟨k_154_43, List.forall_mem_cons.mpr ⟨k_154_44, List.forall_mem_cons.mpr ⟨k_154_45, List.forall_mem_cons.mpr ⟨k_154_46, fun _ h => absurd h List.not_mem_nil⟩⟩⟩⟩⟩
def P154 : List (Nat × List (Nat × aO)) := [(13, B154_0), (25, B154_1), (39, B154_2), (46, B154_3)]
theorem P154_ok : ∀ b ∈ P154, ∀ q ∈ b.2, Ok M154 q.1 q.2 := List.forall_mem_cons.mpr ⟨B154_0_ok, List.forall_mem_cons.mpr ⟨B154_1_ok, List.forall_mem_cons.mpr ⟨B154_2_ok, List.forall_mem_cons.mpr ⟨B154_3_ok, fun _ h => absurd h List.not_mem_nil⟩⟩⟩⟩
theorem k_155_0 : Ok M155 0 (oLA 0 1) := r_aload_n (j := 0) (by decide +kernel) rfl
theorem k_155_1 : Ok M155 1 (oLI 1 2) := r_iload_n (j := 1) (by decide +kernel) rfl
theorem k_155_2 : Ok M155 2 (oCV 5 103 1) := r_callV (idx := 174) (by decide +kernel) w_872 cv_103
theorem k_155_5 : Ok M155 5 (oB1 b_if_eq q_eq 23 8) := r_if_eq (off := 18) (by decide +kernel) (by decide +kernel)
theorem k_155_8 : Ok M155 8 (oLA 0 9) := r_aload_n (j := 0) (by decide +kernel) rfl
theorem k_155_9 : Ok M155 9 (oLI 1 10) := r_iload_n (j := 1) (by decide +kernel) rfl
theorem k_155_10 : Ok M155 10 (oLA 0 11) := r_aload_n (j := 0) (by decide +kernel) rfl
theorem k_155_11 : Ok M155 11 (oGe 5 0 14) := r_get (idx := 7) (by decide +kernel) cd_5 0 (by decide) w_678 rfl
theorem k_155_14 : Ok M155 14 (oS (gKo (.int 8)) 16) := r_bipush (n := 8) (by decide +kernel) (by decide +kernel)
theorem k_155_16 : Ok M155 16 (oAI 17) := r_iaload (by decide +kernel)
theorem k_155_17 : Ok M155 17 (oCV 5 154 2) := r_callV (idx := 233) (by decide +kernel) w_951 cv_154
theorem k_155_20 : Ok M155 20 (oGo 29) := r_goto (off := 9) (by decide +kernel) (by decide +kernel)
theorem k_155_23 : Ok M155 23 (oLA 0 24) := r_aload_n (j := 0) (by decide +kernel) rfl
theorem k_155_24 : Ok M155 24 (oS (gKo (.int (-2))) 26) := r_bipush (n := (-2)) (by decide +kernel) (by decide +kernel)
theorem k_155_26 : Ok M155 26 (oCV 5 99 1) := r_callV (idx := 54) (by decide +kernel) w_747 cv_99
theorem k_155_29 : Ok M155 29 (oRI) := r_ireturn rfl (by decide +kernel)
def B155_0 : List (Nat × aO) := [(0, oLA 0 1), (1, oLI 1 2), (2, oCV 5 103 1), (5, oB1 b_if_eq q_eq 23 8), (8, oLA 0 9), (9, oLI 1 10), (10, oLA 0 11), (11, oGe 5 0 14)]
theorem B155_0_ok : ∀ q ∈ B155_0, Ok M155 q.1 q.2 := List.forall_mem_cons.mpr ⟨k_155_0, List.forall_mem_cons.mpr ⟨k_155_1, List.forall_mem_cons.mpr ⟨k_155_2, List.forall_mem_cons.mpr ⟨k_155_5, List.forall_mem_cons.mpr ⟨k_155_8, List.forall_mem_cons.mpr ⟨k_155_9, List.forall_mem_cons.mpr ⟨k_155_10, List.forall_mem_cons.mpr ⟨k_155_11, fun _ h => absurd h List.not_mem_nil⟩⟩⟩⟩⟩⟩⟩⟩
def B155_1 : List (Nat × aO) := [(14, oS (gKo (.int 8)) 16), (16, oAI 17), (17, oCV 5 154 2), (20, oGo 29), (23, oLA 0 24), (24, oS (gKo (.int (-2))) 26), (26, oCV 5 99 1), (29, oRI)]
theorem B155_1_ok : ∀ q ∈ B155_1, Ok M155 q.1 q.2 := List.forall_mem_cons.mpr ⟨k_155_14, List.forall_mem_cons.mpr ⟨k_155_16, List.forall_mem_cons.mpr ⟨k_155_17, List.forall_mem_cons.mpr ⟨k_155_20, List.forall_mem_cons.mpr ⟨k_155_23, List.forall_mem_cons.mpr ⟨k_155_24, List.forall_mem_cons.mpr ⟨k_155_26, List.forall_mem_cons.mpr ⟨k_155_29, fun _ h => absurd h List.not_mem_nil⟩⟩⟩⟩⟩⟩⟩⟩
def P155 : List (Nat × List (Nat × aO)) := [(11, B155_0), (29, B155_1)]
theorem P155_ok : ∀ b ∈ P155, ∀ q ∈ b.2, Ok M155 q.1 q.2 := List.forall_mem_cons.mpr ⟨B155_0_ok, List.forall_mem_cons.mpr ⟨B155_1_ok, fun _ h => absurd h List.not_mem_nil⟩⟩
theorem k_156_0 : Ok M156 0 (oLA 0 1) := r_aload_n (j := 0) (by decide +kernel) rfl
theorem k_156_1 : Ok M156 1 (oCV 5 153 0) := r_callV (idx := 227) (by decide +kernel) w_955 cv_153
theorem k_156_4 : Ok M156 4 (oB1 b_if_ne q_ne 9 7) := r_if_ne (off := 5) (by decide +kernel) (by decide +kernel)
theorem k_156_7 : Ok M156 7 (oS (gKo (.int (-1))) 8) := r_iconst (n := (-1)) (by decide +kernel) (by decide +kernel)
theorem k_156_8 : Ok M156 8 (oRI) := r_ireturn rfl (by decide +kernel)
theorem k_156_9 : Ok M156 9 (oLA 0 10) := r_aload_n (j := 0) (by decide +kernel) rfl
theorem k_156_10 : Ok M156 10 (oLA 0 11) := r_aload_n (j := 0) (by decide +kernel) rfl
theorem k_156_11 : Ok M156 11 (oCV 5 142 0) := r_callV (idx := 191) (by decide +kernel) w_935 cv_142
theorem k_156_14 : Ok M156 14 (oCV 5 152 1) := r_callV (idx := 230) (by decide +kernel) w_959 cv_152
theorem k_156_17 : Ok M156 17 (oLA 0 18) := r_aload_n (j := 0) (by decide +kernel) rfl
theorem k_156_18 : Ok M156 18 (oLA 0 19) := r_aload_n (j := 0) (by decide +kernel) rfl
theorem k_156_19 : Ok M156 19 (oCV 5 142 0) := r_callV (idx := 191) (by decide +kernel) w_935 cv_142
theorem k_156_22 : Ok M156 22 (oLA 0 23) := r_aload_n (j := 0) (by decide +kernel) rfl
theorem k_156_23 : Ok M156 23 (oGe 5 0 26) := r_get (idx := 7) (by decide +kernel) cd_5 0 (by decide) w_678 rfl
theorem k_156_26 : Ok M156 26 (oS (gKo (.int 3)) 27) := r_iconst (n := 3) (by decide +kernel) (by decide +kernel)
theorem k_156_27 : Ok M156 27 (oAI 28) := r_iaload (by decide +kernel)
theorem k_156_28 : Ok M156 28 (oLA 0 29) := r_aload_n (j := 0) (by decide +kernel) rfl
theorem k_156_29 : Ok M156 29 (oGe 5 0 32) := r_get (idx := 7) (by decide +kernel) cd_5 0 (by decide) w_678 rfl
theorem k_156_32 : Ok M156 32 (oS (gKo (.int 8)) 34) := r_bipush (n := 8) (by decide +kernel) (by decide +kernel)
theorem k_156_34 : Ok M156 34 (oAI 35) := r_iaload (by decide +kernel)
theorem k_156_35 : Ok M156 35 (oLA 0 36) := r_aload_n (j := 0) (by decide +kernel) rfl
theorem k_156_36 : Ok M156 36 (oLA 0 37) := r_aload_n (j := 0) (by decide +kernel) rfl
theorem k_156_37 : Ok M156 37 (oGe 5 0 40) := r_get (idx := 7) (by decide +kernel) cd_5 0 (by decide) w_678 rfl
theorem k_156_40 : Ok M156 40 (oS (gKo (.int 4)) 41) := r_iconst (n := 4) (by decide +kernel) (by decide +kernel)
theorem k_156_41 : Ok M156 41 (oAI 42) := r_iaload (by decide +kernel)
theorem k_156_42 : Ok M156 42 (oCV 5 126 1) := r_callV (idx := 152) (by decide +kernel) w_836 cv_126
theorem k_156_45 : Ok M156 45 (oCV 5 150 4) := r_callV (idx := 220) (by decide +kernel) w_974 cv_150
theorem k_156_48 : Ok M156 48 (oRI) := r_ireturn rfl (by decide +kernel)
def B156_0 : List (Nat × aO) := [(0, oLA 0 1), (1, oCV 5 153 0), (4, oB1 b_if_ne q_ne 9 7), (7, oS (gKo (.int (-1))) 8), (8, oRI), (9, oLA 0 10), (10, oLA 0 11), (11, oCV 5 142 0)]
theorem B156_0_ok : ∀ q ∈ B156_0, Ok M156 q.1 q.2 := List.forall_mem_cons.mpr ⟨k_156_0, List.forall_mem_cons.mpr ⟨k_156_1, List.forall_mem_cons.mpr ⟨k_156_4, List.forall_mem_cons.mpr ⟨k_156_7, List.forall_mem_cons.mpr ⟨k_156_8, List.forall_mem_cons.mpr ⟨k_156_9, List.forall_mem_cons.mpr ⟨k_156_10, List.forall_mem_cons.mpr ⟨k_156_11, fun _ h => absurd h List.not_mem_nil⟩⟩⟩⟩⟩⟩⟩⟩
def B156_1 : List (Nat × aO) := [(14, oCV 5 152 1), (17, oLA 0 18), (18, oLA 0 19), (19, oCV 5 142 0), (22, oLA 0 23), (23, oGe 5 0 26), (26, oS (gKo (.int 3)) 27), (27, oAI 28)]
theorem B156_1_ok : ∀ q ∈ B156_1, Ok M156 q.1 q.2 := List.forall_mem_cons.mpr ⟨k_156_14, List.forall_mem_cons.mpr ⟨k_156_17, List.forall_mem_cons.mpr ⟨k_156_18, List.forall_mem_cons.mpr ⟨k_156_19, List.forall_mem_cons.mpr ⟨k_156_22, List.forall_mem_cons.mpr ⟨k_156_23, List.forall_mem_cons.mpr ⟨k_156_26, List.forall_mem_cons.mpr ⟨k_156_27, fun _ h => absurd h List.not_mem_nil⟩⟩⟩⟩⟩⟩⟩⟩
def B156_2 : List (Nat × aO) := [(28, oLA 0 29), (29, oGe 5 0 32), (32, oS (gKo (.int 8)) 34), (34, oAI 35), (35, oLA 0 36), (36, oLA 0 37), (37, oGe 5 0 40), (40, oS (gKo (.int 4)) 41)]
theorem B156_2_ok : ∀ q ∈ B156_2, Ok M156 q.1 q.2 := List.forall_mem_cons.mpr ⟨k_156_28, List.forall_mem_cons.mpr ⟨k_156_29, List.forall_mem_cons.mpr ⟨k_156_32, List.forall_mem_cons.mpr ⟨k_156_34, List.forall_mem_cons.mpr ⟨k_156_35, List.forall_mem_cons.mpr ⟨k_156_36, List.forall_mem_cons.mpr ⟨k_156_37, List.forall_mem_cons.mpr ⟨k_156_40, fun _ h => absurd h List.not_mem_nil⟩⟩⟩⟩⟩⟩⟩⟩
def B156_3 : List (Nat × aO) := [(41, oAI 42), (42, oCV 5 126 1), (45, oCV 5 150 4), (48, oRI)]
theorem B156_3_ok : ∀ q ∈ B156_3, Ok M156 q.1 q.2 := List.forall_mem_cons.mpr ⟨k_156_41, List.forall_mem_cons.mpr ⟨k_156_42, List.forall_mem_cons.mpr ⟨k_156_45, List.forall_mem_cons.mpr ⟨k_156_48, fun _ h => absurd h List.not_mem_nil⟩⟩⟩⟩
def P156 : List (Nat × List (Nat × aO)) := [(11, B156_0), (27, B156_1), (40, B156_2), (48, B156_3)]
theorem P156_ok : ∀ b ∈ P156, ∀ q ∈ b.2, Ok M156 q.1 q.2 := List.forall_mem_cons.mpr ⟨B156_0_ok, List.forall_mem_cons.mpr ⟨B156_1_ok, List.forall_mem_cons.mpr ⟨B156_2_ok, List.forall_mem_cons.mpr ⟨B156_3_ok, fun _ h => absurd h List.not_mem_nil⟩⟩⟩⟩
theorem k_157_0 : Ok M157 0 (oLA 0 1) := r_aload_n (j := 0) (by decide +kernel) rfl
theorem k_157_1 : Ok M157 1 (oLA 0 2) := r_aload_n (j := 0) (by decide +kernel) rfl
theorem k_157_2 : Ok M157 2 (oCV 5 142 0) := r_callV (idx := 191) (by decide +kernel) w_935 cv_142
theorem k_157_5 : Ok M157 5 (oCV 5 152 1) := r_callV (idx := 230) (by decide +kernel) w_959 cv_152
theorem k_157_8 : Ok M157 8 (oLA 0 9) := r_aload_n (j := 0) (by decide +kernel) rfl
theorem k_157_9 : Ok M157 9 (oLA 0 10) := r_aload_n (j := 0) (by decide +kernel) rfl
theorem k_157_10 : Ok M157 10 (oCV 5 142 0) := r_callV (idx := 191) (by decide +kernel) w_935 cv_142
theorem k_157_13 : Ok M157 13 (oLA 0 14) := r_aload_n (j := 0) (by decide +kernel) rfl
theorem k_157_14 : Ok M157 14 (oGe 5 0 17) := r_get (idx := 7) (by decide +kernel) cd_5 0 (by decide) w_678 rfl
theorem k_157_17 : Ok M157 17 (oS (gKo (.int 3)) 18) := r_iconst (n := 3) (by decide +kernel) (by decide +kernel)
theorem k_157_18 : Ok M157 18 (oAI 19) := r_iaload (by decide +kernel)
theorem k_157_19 : Ok M157 19 (oLA 0 20) := r_aload_n (j := 0) (by decide +kernel) rfl
theorem k_157_20 : Ok M157 20 (oGe 5 0 23) := r_get (idx := 7) (by decide +kernel) cd_5 0 (by decide) w_678 rfl
theorem k_157_23 : Ok M157 23 (oS (gKo (.int 8)) 25) := r_bipush (n := 8) (by decide +kernel) (by decide +kernel)
theorem k_157_25 : Ok M157 25 (oAI 26) := r_iaload (by decide +kernel)
theorem k_157_26 : Ok M157 26 (oLA 0 27) := r_aload_n (j := 0) (by decide +kernel) rfl
theorem k_157_27 : Ok M157 27 (oLA 0 28) := r_aload_n (j := 0) (by decide +kernel) rfl
theorem k_157_28 : Ok M157 28 (oGe 5 0 31) := r_get (idx := 7) (by decide +kernel) cd_5 0 (by decide) w_678 rfl
theorem k_157_31 : Ok M157 31 (oS (gKo (.int 4)) 32) := r_iconst (n := 4) (by decide +kernel) (by decide +kernel)
theorem k_157_32 : Ok M157 32 (oAI 33) := r_iaload (by decide +kernel)
theorem k_157_33 : Ok M157 33 (oCV 5 126 1) := r_callV (idx := 152) (by decide +kernel) w_836 cv_126
theorem k_157_36 : Ok M157 36 (oLI 1 37) := r_iload_n (j := 1) (by decide +kernel) rfl
theorem k_157_37 : Ok M157 37 (oCV 5 149 5) := r_callV (idx := 209) (by decide +kernel) w_978 cv_149
theorem k_157_40 : Ok M157 40 (oRV) := r_return rfl (by decide +kernel)
def B157_0 : List (Nat × aO) := [(0, oLA 0 1), (1, oLA 0 2), (2, oCV 5 142 0), (5, oCV 5 152 1), (8, oLA 0 9), (9, oLA 0 10), (10, oCV 5 142 0), (13, oLA 0 14)]
theorem B157_0_ok : ∀ q ∈ B157_0, Ok M157 q.1 q.2 := List.forall_mem_cons.mpr ⟨k_157_0, List.forall_mem_cons.mpr ⟨k_157_1, List.forall_mem_cons.mpr ⟨k_157_2, List.forall_mem_cons.mpr ⟨k_157_5, List.forall_mem_cons.mpr ⟨k_157_8, List.forall_mem_cons.mpr ⟨k_157_9, List.forall_mem_cons.mpr ⟨k_157_10, List.forall_mem_cons.mpr ⟨k_157_13, fun _ h => absurd h List.not_mem_nil⟩⟩⟩⟩⟩⟩⟩⟩
def B157_1 : List (Nat × aO) := [(14, oGe 5 0 17), (17, oS (gKo (.int 3)) 18), (18, oAI 19), (19, oLA 0 20), (20, oGe 5 0 23), (23, oS (gKo (.int 8)) 25), (25, oAI 26), (26, oLA 0 27)]
theorem B157_1_ok : ∀ q ∈ B157_1, Ok M157 q.1 q.2 := List.forall_mem_cons.mpr ⟨k_157_14, List.forall_mem_cons.mpr ⟨k_157_17, List.forall_mem_cons.mpr ⟨k_157_18, List.forall_mem_cons.mpr ⟨k_157_19, List.forall_mem_cons.mpr ⟨k_157_20, List.forall_mem_cons.mpr ⟨k_157_23, List.forall_mem_cons.mpr ⟨k_157_25, List.forall_mem_cons.mpr ⟨k_157_26, fun _ h => absurd h List.not_mem_nil⟩⟩⟩⟩⟩⟩⟩⟩
def B157_2 : List (Nat × aO) := [(27, oLA 0 28), (28, oGe 5 0 31), (31, oS (gKo (.int 4)) 32), (32, oAI 33), (33, oCV 5 126 1), (36, oLI 1 37), (37, oCV 5 149 5), (40, oRV)]
theorem B157_2_ok : ∀ q ∈ B157_2, Ok M157 q.1 q.2 := List.forall_mem_cons.mpr ⟨k_157_27, List.forall_mem_cons.mpr ⟨k_157_28, List.forall_mem_cons.mpr ⟨k_157_31, List.forall_mem_cons.mpr ⟨k_157_32, List.forall_mem_cons.mpr ⟨k_157_33, List.forall_mem_cons.mpr ⟨k_157_36, List.forall_mem_cons.mpr ⟨k_157_37, List.forall_mem_cons.mpr ⟨k_157_40, fun _ h => absurd h List.not_mem_nil⟩⟩⟩⟩⟩⟩⟩⟩
def P157 : List (Nat × List (Nat × aO)) := [(13, B157_0), (26, B157_1), (40, B157_2)]
theorem P157_ok : ∀ b ∈ P157, ∀ q ∈ b.2, Ok M157 q.1 q.2 := List.forall_mem_cons.mpr ⟨B157_0_ok, List.forall_mem_cons.mpr ⟨B157_1_ok, List.forall_mem_cons.mpr ⟨B157_2_ok, fun _ h => absurd h List.not_mem_nil⟩⟩⟩
theorem k_158_0 : Ok M158 0 (oLA 0 1) := r_aload_n (j := 0) (by decide +kernel) rfl
theorem k_158_1 : Ok M158 1 (oLI 1 2) := r_iload_n (j := 1) (by decide +kernel) rfl
theorem k_158_2 : Ok M158 2 (oCV 5 102 1) := r_callV (idx := 159) (by decide +kernel) w_860 cv_102
theorem k_158_5 : Ok M158 5 (oB1 b_if_ne q_ne 15 8) := r_if_ne (off := 10) (by decide +kernel) (by decide +kernel)
theorem k_158_8 : Ok M158 8 (oLA 0 9) := r_aload_n (j := 0) (by decide +kernel) rfl
theorem k_158_9 : Ok M158 9 (oS (gKo (.int (-2))) 11) := r_bipush (n := (-2)) (by decide +kernel) (by decide +kernel)
theorem k_158_11 : Ok M158 11 (oCV 5 99 1) := r_callV (idx := 54) (by decide +kernel) w_747 cv_99
theorem k_158_14 : Ok M158 14 (oRI) := r_ireturn rfl (by decide +kernel)
theorem k_158_15 : Ok M158 15 (oLA 0 16) := r_aload_n (j := 0) (by decide +kernel) rfl
theorem k_158_16 : Ok M158 16 (oLI 1 17) := r_iload_n (j := 1) (by decide +kernel) rfl
theorem k_158_17 : Ok M158 17 (oCV 5 143 1) := r_callV (idx := 194) (by decide +kernel) w_931 cv_143
theorem k_158_20 : Ok M158 20 (oB1 b_if_ne q_ne 30 23) := r_if_ne (off := 10) (by decide +kernel) (by decide +kernel)
theorem k_158_23 : Ok M158 23 (oLA 0 24) := r_aload_n (j := 0) (by decide +kernel) rfl
theorem k_158_24 : Ok M158 24 (oS (gKo (.int (-3))) 26) := r_bipush (n := (-3)) (by decide +kernel) (by decide +kernel)
theorem k_158_26 : Ok M158 26 (oCV 5 99 1) := r_callV (idx := 54) (by decide +kernel) w_747 cv_99
theorem k_158_29 : Ok M158 29 (oRI) := r_ireturn rfl (by decide +kernel)
theorem k_158_30 : Ok M158 30 (oLA 0 31) := r_aload_n (j := 0) (by decide +kernel) rfl
theorem k_158_31 : Ok M158 31 (oLI 1 32) := r_iload_n (j := 1) (by decide +kernel) rfl
theorem k_158_32 : Ok M158 32 (oCV 5 157 1) := r_callV (idx := 236) (by decide +kernel) w_993 cv_157
theorem k_158_35 : Ok M158 35 (oLA 0 36) := r_aload_n (j := 0) (by decide +kernel) rfl
theorem k_158_36 : Ok M158 36 (oGe 5 19 39) := r_get (idx := 206) (by decide +kernel) cd_5 19 (by decide) w_697 rfl
theorem k_158_39 : Ok M158 39 (oRI) := r_ireturn rfl (by decide +kernel)
def B158_0 : List (Nat × aO) := [(0, oLA 0 1), (1, oLI 1 2), (2, oCV 5 102 1), (5, oB1 b_if_ne q_ne 15 8), (8, oLA 0 9), (9, oS (gKo (.int (-2))) 11), (11, oCV 5 99 1), (14, oRI)]
theorem B158_0_ok : ∀ q ∈ B158_0, Ok M158 q.1 q.2 := List.forall_mem_cons.mpr ⟨k_158_0, List.forall_mem_cons.mpr ⟨k_158_1, List.forall_mem_cons.mpr ⟨k_158_2, List.forall_mem_cons.mpr ⟨k_158_5, List.forall_mem_cons.mpr ⟨k_158_8, List.forall_mem_cons.mpr ⟨k_158_9, List.forall_mem_cons.mpr ⟨k_158_11, List.forall_mem_cons.mpr ⟨k_158_14, fun _ h => absurd h List.not_mem_nil⟩⟩⟩⟩⟩⟩⟩⟩
def B158_1 : List (Nat × aO) := [(15, oLA 0 16), (16, oLI 1 17), (17, oCV 5 143 1), (20, oB1 b_if_ne q_ne 30 23), (23, oLA 0 24), (24, oS (gKo (.int (-3))) 26), (26, oCV 5 99 1), (29, oRI)]
theorem B158_1_ok : ∀ q ∈ B158_1, Ok M158 q.1 q.2 := List.forall_mem_cons.mpr ⟨k_158_15, List.forall_mem_cons.mpr ⟨k_158_16, List.forall_mem_cons.mpr ⟨k_158_17, List.forall_mem_cons.mpr ⟨k_158_20, List.forall_mem_cons.mpr ⟨k_158_23, List.forall_mem_cons.mpr ⟨k_158_24, List.forall_mem_cons.mpr ⟨k_158_26, List.forall_mem_cons.mpr ⟨k_158_29, fun _ h => absurd h List.not_mem_nil⟩⟩⟩⟩⟩⟩⟩⟩
def B158_2 : List (Nat × aO) := [(30, oLA 0 31), (31, oLI 1 32), (32, oCV 5 157 1), (35, oLA 0 36), (36, oGe 5 19 39), (39, oRI)]
theorem B158_2_ok : ∀ q ∈ B158_2, Ok M158 q.1 q.2 := List.forall_mem_cons.mpr ⟨k_158_30, List.forall_mem_cons.mpr ⟨k_158_31, List.forall_mem_cons.mpr ⟨k_158_32, List.forall_mem_cons.mpr ⟨k_158_35, List.forall_mem_cons.mpr ⟨k_158_36, List.forall_mem_cons.mpr ⟨k_158_39, fun _ h => absurd h List.not_mem_nil⟩⟩⟩⟩⟩⟩
def P158 : List (Nat × List (Nat × aO)) := [(14, B158_0), (29, B158_1), (39, B158_2)]
theorem P158_ok : ∀ b ∈ P158, ∀ q ∈ b.2, Ok M158 q.1 q.2 := List.forall_mem_cons.mpr ⟨B158_0_ok, List.forall_mem_cons.mpr ⟨B158_1_ok, List.forall_mem_cons.mpr ⟨B158_2_ok, fun _ h => absurd h List.not_mem_nil⟩⟩⟩
theorem k_159_0 : Ok M159 0 (oLA 0 1) := r_aload_n (j := 0) (by decide +kernel) rfl
theorem k_159_1 : Ok M159 1 (oLI 1 2) := r_iload_n (j := 1) (by decide +kernel) rfl
theorem k_159_2 : Ok M159 2 (oCV 5 102 1) := r_callV (idx := 159) (by decide +kernel) w_860 cv_102
theorem k_159_5 : Ok M159 5 (oB1 b_if_eq q_eq 16 8) := r_if_eq (off := 11) (by decide +kernel) (by decide +kernel)
theorem k_159_8 : Ok M159 8 (oLA 0 9) := r_aload_n (j := 0) (by decide +kernel) rfl
theorem k_159_9 : Ok M159 9 (oLI 2 10) := r_iload_n (j := 2) (by decide +kernel) rfl
theorem k_159_10 : Ok M159 10 (oCV 5 103 1) := r_callV (idx := 174) (by decide +kernel) w_872 cv_103
theorem k_159_13 : Ok M159 13 (oB1 b_if_ne q_ne 23 16) := r_if_ne (off := 10) (by decide +kernel) (by decide +kernel)
theorem k_159_16 : Ok M159 16 (oLA 0 17) := r_aload_n (j := 0) (by decide +kernel) rfl
theorem k_159_17 : Ok M159 17 (oS (gKo (.int (-2))) 19) := r_bipush (n := (-2)) (by decide +kernel) (by decide +kernel)
theorem k_159_19 : Ok M159 19 (oCV 5 99 1) := r_callV (idx := 54) (by decide +kernel) w_747 cv_99
theorem k_159_22 : Ok M159 22 (oRI) := r_ireturn rfl (by decide +kernel)
theorem k_159_23 : Ok M159 23 (oLA 0 24) := r_aload_n (j := 0) (by decide +kernel) rfl
theorem k_159_24 : Ok M159 24 (oLI 1 25) := r_iload_n (j := 1) (by decide +kernel) rfl
theorem k_159_25 : Ok M159 25 (oCV 5 143 1) := r_callV (idx := 194) (by decide +kernel) w_931 cv_143
theorem k_159_28 : Ok M159 28 (oB1 b_if_ne q_ne 38 31) := r_if_ne (off := 10) (by decide +kernel) (by decide +kernel)
theorem k_159_31 : Ok M159 31 (oLA 0 32) := r_aload_n (j := 0) (by decide +kernel) rfl
theorem k_159_32 : Ok M159 32 (oS (gKo (.int (-3))) 34) := r_bipush (n := (-3)) (by decide +kernel) (by decide +kernel)
theorem k_159_34 : Ok M159 34 (oCV 5 99 1) := r_callV (idx := 54) (by decide +kernel) w_747 cv_99
theorem k_159_37 : Ok M159 37 (oRI) := r_ireturn rfl (by decide +kernel)
theorem k_159_38 : Ok M159 38 (oLA 0 39) := r_aload_n (j := 0) (by decide +kernel) rfl
theorem k_159_39 : Ok M159 39 (oLI 1 40) := r_iload_n (j := 1) (by decide +kernel) rfl
theorem k_159_40 : Ok M159 40 (oCV 5 157 1) := r_callV (idx := 236) (by decide +kernel) w_993 cv_157
theorem k_159_43 : Ok M159 43 (oLA 0 44) := r_aload_n (j := 0) (by decide +kernel) rfl
theorem k_159_44 : Ok M159 44 (oLI 2 45) := r_iload_n (j := 2) (by decide +kernel) rfl
theorem k_159_45 : Ok M159 45 (oCV 5 129 1) := r_callV (idx := 165) (by decide +kernel) w_881 cv_129
theorem k_159_48 : Ok M159 48 (oLA 0 49) := r_aload_n (j := 0) (by decide +kernel) rfl
theorem k_159_49 : Ok M159 49 (oGe 5 18 52) := r_get (idx := 37) (by decide +kernel) cd_5 18 (by decide) w_696 rfl
theorem k_159_52 : Ok M159 52 (oLI 2 53) := r_iload_n (j := 2) (by decide +kernel) rfl
theorem k_159_53 : Ok M159 53 (oAI 54) := r_iaload (by decide +kernel)
theorem k_159_54 : Ok M159 54 (oS (gI2 f_iadd) 55) := r_iadd (by decide +kernel)
theorem k_159_55 : Ok M159 55 (oRI) := r_ireturn rfl (by decide +kernel)
def B159_0 : List (Nat × aO) := [(0, oLA 0 1), (1, oLI 1 2), (2, oCV 5 102 1), (5, oB1 b_if_eq q_eq 16 8), (8, oLA 0 9), (9, oLI 2 10), (10, oCV 5 103 1), (13, oB1 b_if_ne q_ne 23 16)]
theorem B159_0_ok : ∀ q ∈ B159_0, Ok M159 q.1 q.2 := List.forall_mem_cons.mpr ⟨k_159_0, List.forall_mem_cons.mpr ⟨k_159_1, List.forall_mem_cons.mpr ⟨k_159_2, List.forall_mem_cons.mpr ⟨k_159_5, List.forall_mem_cons.mpr ⟨k_159_8, List.forall_mem_cons.mpr ⟨k_159_9, List.forall_mem_cons.mpr ⟨k_159_10, List.forall_mem_cons.mpr ⟨k_159_13, fun _ h => absurd h List.not_mem_nil⟩⟩⟩⟩⟩⟩⟩⟩
def B159_1 : List (Nat × aO) := [(16, oLA 0 17), (17, oS (gKo (.int (-2))) 19), (19, oCV 5 99 1), (22, oRI), (23, oLA 0 24), (24, oLI 1 25), (25, oCV 5 143 1), (28, oB1 b_if_ne q_ne 38 31)]
theorem B159_1_ok : ∀ q ∈ B159_1, Ok M159 q.1 q.2 := List.forall_mem_cons.mpr ⟨k_159_16, List.forall_mem_cons.mpr ⟨k_159_17, List.forall_mem_cons.mpr ⟨k_159_19, List.forall_mem_cons.mpr ⟨k_159_22, List.forall_mem_cons.mpr ⟨k_159_23, List.forall_mem_cons.mpr ⟨k_159_24, List.forall_mem_cons.mpr ⟨k_159_25, List.forall_mem_cons.mpr ⟨k_159_28, fun _ h => absurd h List.not_mem_nil⟩⟩⟩⟩⟩⟩⟩⟩
def B159_2 : List (Nat × aO) := [(31, oLA 0 32), (32, oS (gKo (.int (-3))) 34), (34, oCV 5 99 1), (37, oRI), (38, oLA 0 39), (39, oLI 1 40), (40, oCV 5 157 1), (43, oLA 0 44)]
theorem B159_2_ok : ∀ q ∈ B159_2, Ok M159 q.1 q.2 := List.forall_mem_cons.mpr ⟨k_159_31, List.forall_mem_cons.mpr ⟨k_159_32, List.forall_mem_cons.mpr ⟨k_159_34, List.forall_mem_cons.mpr ⟨k_159_37, List.forall_mem_cons.mpr ⟨k_159_38, List.forall_mem_cons.mpr ⟨k_159_39, List.forall_mem_cons.mpr ⟨k_159_40, List.forall_mem_cons.mpr ⟨k_159_43, fun _ h => absurd h List.not_mem_nil⟩⟩⟩⟩⟩⟩⟩⟩
def B159_3 : List (Nat × aO) := [(44, oLI 2 45), (45, oCV 5 129 1), (48, oLA 0 49), (49, oGe 5 18 52), (52, oLI 2 53), (53, oAI 54), (54, oS (gI2 f_iadd) 55), (55, oRI)]
theorem B159_3_ok : ∀ q ∈ B159_3, Ok M159 q.1 q.2 := List.forall_mem_cons.mpr ⟨k_159_44, List.forall_mem_cons.mpr ⟨k_159_45, List.forall_mem_cons.mpr ⟨k_159_48, List.forall_mem_cons.mpr ⟨k_159_49, List.forall_mem_cons.mpr ⟨k_159_52, List.forall_mem_cons.mpr ⟨k_159_53, List.forall_mem_cons.mpr ⟨k_159_54, List.forall_mem_cons.mpr ⟨k_159_55, fun _ h => absurd h List.not_mem_nil⟩⟩⟩⟩⟩⟩⟩⟩
def P159 : List (Nat × List (Nat × aO)) := [(13, B159_0), (28, B159_1), (43, B159_2), (55, B159_3)]
theorem P159_ok : ∀ b ∈ P159, ∀ q ∈ b.2, Ok M159 q.1 q.2 := List.forall_mem_cons.mpr ⟨B159_0_ok, List.forall_mem_cons.mpr ⟨B159_1_ok, List.forall_mem_cons.mpr ⟨B159_2_ok, List.forall_mem_cons.mpr ⟨B159_3_ok, fun _ h => absurd h List.not_mem_nil⟩⟩⟩⟩
theorem k_160_0 : Ok M160 0 (oLI 1 1) := r_iload_n (j := 1) (by decide +kernel) rfl
theorem k_160_1 : Ok M160 1 (oB1 b_if_ge q_ge 11 4) := r_if_ge (off := 10) (by decide +kernel) (by decide +kernel)
theorem k_160_4 : Ok M160 4 (oLA 0 5) := r_aload_n (j := 0) (by decide +kernel) rfl
theorem k_160_5 : Ok M160 5 (oS (gKo (.int (-2))) 7) := r_bipush (n := (-2)) (by decide +kernel) (by decide +kernel)
theorem k_160_7 : Ok M160 7 (oCV 5 99 1) := r_callV (idx := 54) (by decide +kernel) w_747 cv_99
theorem k_160_10 : Ok M160 10 (oRI) := r_ireturn rfl (by decide +kernel)
theorem k_160_11 : Ok M160 11 (oLA 0 12) := r_aload_n (j := 0) (by decide +kernel) rfl
theorem k_160_12 : Ok M160 12 (oCV 5 153 0) := r_callV (idx := 227) (by decide +kernel) w_955 cv_153
theorem k_160_15 : Ok M160 15 (oB1 b_if_eq q_eq 25 18) := r_if_eq (off := 10) (by decide +kernel) (by decide +kernel)
theorem k_160_18 : Ok M160 18 (oLA 0 19) := r_aload_n (j := 0) (by decide +kernel) rfl
theorem k_160_19 : Ok M160 19 (oCV 5 142 0) := r_callV (idx := 191) (by decide +kernel) w_935 cv_142
theorem k_160_22 : Ok M160 22 (oGo 26) := r_goto (off := 4) (by decide +kernel) (by decide +kernel)
theorem k_160_25 : Ok M160 25 (oS (gKo (.int 0)) 26) := r_iconst (n := 0) (by decide +kernel) (by decide +kernel)
theorem k_160_26 : Ok M160 26 (oSI 2 8 27) := r_istore_n (j := 2) (by decide +kernel) rfl
theorem k_160_27 : Ok M160 27 (oLA 0 28) := r_aload_n (j := 0) (by decide +kernel) rfl
theorem k_160_28 : Ok M160 28 (oGe 5 0 31) := r_get (idx := 7) (by decide +kernel) cd_5 0 (by decide) w_678 rfl
theorem k_160_31 : Ok M160 31 (oS (gKo (.int 3)) 32) := r_iconst (n := 3) (by decide +kernel) (by decide +kernel)
theorem k_160_32 : Ok M160 32 (oAI 33) := r_iaload (by decide +kernel)
theorem k_160_33 : Ok M160 33 (oSI 3 8 34) := r_istore_n (j := 3) (by decide +kernel) rfl
theorem k_160_34 : Ok M160 34 (oLA 0 35) := r_aload_n (j := 0) (by decide +kernel) rfl
theorem k_160_35 : Ok M160 35 (oGe 5 0 38) := r_get (idx := 7) (by decide +kernel) cd_5 0 (by decide) w_678 rfl
theorem k_160_38 : Ok M160 38 (oS (gKo (.int 8)) 40) := r_bipush (n := 8) (by decide +kernel) (by decide +kernel)
theorem k_160_40 : Ok M160 40 (oAI 41) := r_iaload (by decide +kernel)
theorem k_160_41 : Ok M160 41 (oSI 4 8 43) := r_istore (by decide +kernel)
theorem k_160_43 : Ok M160 43 (oLA 0 44) := r_aload_n (j := 0) (by decide +kernel) rfl
theorem k_160_44 : Ok M160 44 (oLI 2 45) := r_iload_n (j := 2) (by decide +kernel) rfl
theorem k_160_45 : Ok M160 45 (oCV 5 152 1) := r_callV (idx := 230) (by decide +kernel) w_959 cv_152
theorem k_160_48 : Ok M160 48 (oS (gKo (.int 0)) 49) := r_iconst (n := 0) (by decide +kernel) (by decide +kernel)
theorem k_160_49 : Ok M160 49 (oSI 5 8 51) := r_istore (by decide +kernel)
theorem k_160_51 : Ok M160 51 (oLI 2 52) := r_iload_n (j := 2) (by decide +kernel) rfl
theorem k_160_52 : Ok M160 52 (oB1 b_if_eq q_eq 185 55) := r_if_eq (off := 133) (by decide +kernel) (by decide +kernel)
theorem k_160_55 : Ok M160 55 (oLA 0 56) := r_aload_n (j := 0) (by decide +kernel) rfl
theorem k_160_56 : Ok M160 56 (oCV 5 125 0) := r_callV (idx := 149) (by decide +kernel) w_840 cv_125
theorem k_160_59 : Ok M160 59 (oLA 0 60) := r_aload_n (j := 0) (by decide +kernel) rfl
theorem k_160_60 : Ok M160 60 (oGe 5 12 63) := r_get (idx := 22) (by decide +kernel) cd_5 12 (by decide) w_690 rfl
theorem k_160_63 : Ok M160 63 (oLA 0 64) := r_aload_n (j := 0) (by decide +kernel) rfl
theorem k_160_64 : Ok M160 64 (oGe 5 0 67) := r_get (idx := 7) (by decide +kernel) cd_5 0 (by decide) w_678 rfl
theorem k_160_67 : Ok M160 67 (oS (gKo (.int 0)) 68) := r_iconst (n := 0) (by decide +kernel) (by decide +kernel)
theorem k_160_68 : Ok M160 68 (oAI 69) := r_iaload (by decide +kernel)
theorem k_160_69 : Ok M160 69 (oLI 2 70) := r_iload_n (j := 2) (by decide +kernel) rfl
theorem k_160_70 : Ok M160 70 (oCS 98 1) := r_callS (idx := 213) (by decide +kernel) w_967 cs_98
theorem k_160_73 : Ok M160 73 (oS (gI2 f_isub) 74) := r_isub (by decide +kernel)
theorem k_160_74 : Ok M160 74 (oAI 75) := r_iaload (by decide +kernel)
theorem k_160_75 : Ok M160 75 (oSI 6 8 77) := r_istore (by decide +kernel)
theorem k_160_77 : Ok M160 77 (oLA 0 78) := r_aload_n (j := 0) (by decide +kernel) rfl
theorem k_160_78 : Ok M160 78 (oLI 2 79) := r_iload_n (j := 2) (by decide +kernel) rfl
theorem k_160_79 : Ok M160 79 (oCV 5 151 1) := r_callV (idx := 224) (by decide +kernel) w_963 cv_151
theorem k_160_82 : Ok M160 82 (oLA 0 83) := r_aload_n (j := 0) (by decide +kernel) rfl
theorem k_160_83 : Ok M160 83 (oLI 2 84) := r_iload_n (j := 2) (by decide +kernel) rfl
theorem k_160_84 : Ok M160 84 (oLI 3 85) := r_iload_n (j := 3) (by decide +kernel) rfl
theorem k_160_85 : Ok M160 85 (oLI 4 87) := r_iload (by decide +kernel)
theorem k_160_87 : Ok M160 87 (oLI 6 89) := r_iload (by decide +kernel)
theorem k_160_89 : Ok M160 89 (oCV 5 150 4) := r_callV (idx := 220) (by decide +kernel) w_974 cv_150
theorem k_160_92 : Ok M160 92 (oSI 7 8 94) := r_istore (by decide +kernel)
theorem k_160_94 : Ok M160 94 (oLA 0 95) := r_aload_n (j := 0) (by decide +kernel) rfl
theorem k_160_95 : Ok M160 95 (oLI 2 96) := r_iload_n (j := 2) (by decide +kernel) rfl
theorem k_160_96 : Ok M160 96 (oLI 3 97) := r_iload_n (j := 3) (by decide +kernel) rfl
theorem k_160_97 : Ok M160 97 (oLI 4 99) := r_iload (by decide +kernel)
theorem k_160_99 : Ok M160 99 (oLI 6 101) := r_iload (by decide +kernel)
theorem k_160_101 : Ok M160 101 (oLI 7 103) := r_iload (by decide +kernel)
theorem k_160_103 : Ok M160 103 (oCV 5 149 5) := r_callV (idx := 209) (by decide +kernel) w_978 cv_149
theorem k_160_106 : Ok M160 106 (oLI 5 108) := r_iload (by decide +kernel)
theorem k_160_108 : Ok M160 108 (oLI 1 109) := r_iload_n (j := 1) (by decide +kernel) rfl
theorem k_160_109 : Ok M160 109 (oB2 b_icmp_ne q_ne 137 112) := r_icmp_ne (off := 28) (by decide +kernel) (by decide +kernel)
theorem k_160_112 : Ok M160 112 (oS (gKo (.int 10)) 114) := r_bipush (n := 10) (by decide +kernel) (by decide +kernel)
theorem k_160_114 : Ok M160 114 (oLI 7 116) := r_iload (by decide +kernel)
theorem k_160_116 : Ok M160 116 (oS (gI2 f_imul) 117) := r_imul (by decide +kernel)
theorem k_160_117 : Ok M160 117 (oLA 0 118) := r_aload_n (j := 0) (by decide +kernel) rfl
theorem k_160_118 : Ok M160 118 (oGe 5 19 121) := r_get (idx := 206) (by decide +kernel) cd_5 19 (by decide) w_697 rfl
theorem k_160_121 : Ok M160 121 (oS (gKo (.int (-1))) 122) := r_iconst (n := (-1)) (by decide +kernel) (by decide +kernel)
theorem k_160_122 : Ok M160 122 (oB2 b_icmp_ne q_ne 129 125) := r_icmp_ne (off := 7) (by decide +kernel) (by decide +kernel)
theorem k_160_125 : Ok M160 125 (oS (gKo (.int 0)) 126) := r_iconst (n := 0) (by decide +kernel) (by decide +kernel)
theorem k_160_126 : Ok M160 126 (oGo 135) := r_goto (off := 9) (by decide +kernel) (by decide +kernel)
theorem k_160_129 : Ok M160 129 (oLA 0 130) := r_aload_n (j := 0) (by decide +kernel) rfl
theorem k_160_130 : Ok M160 130 (oGe 5 19 133) := r_get (idx := 206) (by decide +kernel) cd_5 19 (by decide) w_697 rfl
theorem k_160_133 : Ok M160 133 (oS (gKo (.int 1)) 134) := r_iconst (n := 1) (by decide +kernel) (by decide +kernel)
theorem k_160_134 : Ok M160 134 (oS (gI2 f_iadd) 135) := r_iadd (by decide +kernel)
theorem k_160_135 : Ok M160 135 (oS (gI2 f_iadd) 136) := r_iadd (by decide +kernel)
theorem k_160_136 : Ok M160 136 (oRI) := r_ireturn rfl (by decide +kernel)
theorem k_160_137 : Ok M160 137 (oInc 5 1 8 140) := r_iinc (n := 1) (by decide +kernel) (by decide +kernel)
theorem k_160_140 : Ok M160 140 (oLA 0 141) := r_aload_n (j := 0) (by decide +kernel) rfl
theorem k_160_141 : Ok M160 141 (oGe 5 19 144) := r_get (idx := 206) (by decide +kernel) cd_5 19 (by decide) w_697 rfl
theorem k_160_144 : Ok M160 144 (oS (gKo (.int (-1))) 145) := r_iconst (n := (-1)) (by decide +kernel) (by decide +kernel)
theorem k_160_145 : Ok M160 145 (oB2 b_icmp_ne q_ne 162 148) := r_icmp_ne (off := 17) (by decide +kernel) (by decide +kernel)
theorem k_160_148 : Ok M160 148 (oLI 2 149) := r_iload_n (j := 2) (by decide +kernel) rfl
theorem k_160_149 : Ok M160 149 (oS (gKo (.int 1)) 150) := r_iconst (n := 1) (by decide +kernel) (by decide +kernel)
theorem k_160_150 : Ok M160 150 (oLI 7 152) := r_iload (by decide +kernel)
theorem k_160_152 : Ok M160 152 (oS (gI2 f_ishl) 153) := r_ishl (by decide +kernel)
theorem k_160_153 : Ok M160 153 (oS (gKo (.int (-1))) 154) := r_iconst (n := (-1)) (by decide +kernel) (by decide +kernel)
theorem k_160_154 : Ok M160 154 (oS (gI2 f_ixor) 155) := r_ixor (by decide +kernel)
theorem k_160_155 : Ok M160 155 (oS (gI2 f_iand) 156) := r_iand (by decide +kernel)
theorem k_160_156 : Ok M160 156 (oSI 2 8 157) := r_istore_n (j := 2) (by decide +kernel) rfl
theorem k_160_157 : Ok M160 157 (oS (gKo (.int 0)) 158) := r_iconst (n := 0) (by decide +kernel) (by decide +kernel)
theorem k_160_158 : Ok M160 158 (oSI 3 8 159) := r_istore_n (j := 3) (by decide +kernel) rfl
theorem k_160_159 : Ok M160 159 (oGo 182) := r_goto (off := 23) (by decide +kernel) (by decide +kernel)
theorem k_160_162 : Ok M160 162 (oLI 3 163) := r_iload_n (j := 3) (by decide +kernel) rfl
theorem k_160_163 : Ok M160 163 (oS (gKo (.int 1)) 164) := r_iconst (n := 1) (by decide +kernel) (by decide +kernel)
theorem k_160_164 : Ok M160 164 (oLI 7 166) := r_iload (by decide +kernel)
theorem k_160_166 : Ok M160 166 (oS (gI2 f_ishl) 167) := r_ishl (by decide +kernel)
theorem k_160_167 : Ok M160 167 (oS (gI2 f_ior) 168) := r_ior (by decide +kernel)
theorem k_160_168 : Ok M160 168 (oSI 3 8 169) := r_istore_n (j := 3) (by decide +kernel) rfl
theorem k_160_169 : Ok M160 169 (oLI 4 171) := r_iload (by decide +kernel)
theorem k_160_171 : Ok M160 171 (oS (gKo (.int 1)) 172) := r_iconst (n := 1) (by decide +kernel) (by decide +kernel)
theorem k_160_172 : Ok M160 172 (oLA 0 173) := r_aload_n (j := 0) (by decide +kernel) rfl
theorem k_160_173 : Ok M160 173 (oGe 5 19 176) := r_get (idx := 206) (by decide +kernel) cd_5 19 (by decide) w_697 rfl
theorem k_160_176 : Ok M160 176 (oS (gI2 f_ishl) 177) := r_ishl (by decide +kernel)
theorem k_160_177 : Ok M160 177 (oS (gKo (.int (-1))) 178) := r_iconst (n := (-1)) (by decide +kernel) (by decide +kernel)
theorem k_160_178 : Ok M160 178 (oS (gI2 f_ixor) 179) := r_ixor (by decide +kernel)
theorem k_160_179 : Ok M160 179 (oS (gI2 f_iand) 180) := r_iand (by decide +kernel)
theorem k_160_180 : Ok M160 180 (oSI 4 8 182) := r_istore (by decide +kernel)
theorem k_160_182 : Ok M160 182 (oGo 51) := r_goto (off := (-131)) (by decide +kernel) (by decide +kernel)
theorem k_160_185 : Ok M160 185 (oS (gKo (.int (-1))) 186) := r_iconst (n := (-1)) (by decide +kernel) (by decide +kernel)
theorem k_160_186 : Ok M160 186 (oRI) := r_ireturn rfl (by decide +kernel)
def B160_0 : List (Nat × aO) := [(0, oLI 1 1), (1, oB1 b_if_ge q_ge 11 4), (4, oLA 0 5), (5, oS (gKo (.int (-2))) 7), (7, oCV 5 99 1), (10, oRI), (11, oLA 0 12), (12, oCV 5 153 0)]
theorem B160_0_ok : ∀ q ∈ B160_0, Ok M160 q.1 q.2 := List.forall_mem_cons.mpr ⟨k_160_0, List.forall_mem_cons.mpr ⟨k_160_1, List.forall_mem_cons.mpr ⟨k_160_4, List.forall_mem_cons.mpr ⟨k_160_5, List.forall_mem_cons.mpr ⟨k_160_7, List.forall_mem_cons.mpr ⟨k_160_10, List.forall_mem_cons.mpr ⟨k_160_11, List.forall_mem_cons.mpr ⟨k_160_12, fun _ h => absurd h List.not_mem_nil⟩⟩⟩⟩⟩⟩⟩⟩
def B160_1 : List (Nat × aO) := [(15, oB1 b_if_eq q_eq 25 18), (18, oLA 0 19), (19, oCV 5 142 0), (22, oGo 26), (25, oS (gKo (.int 0)) 26), (26, oSI 2 8 27), (27, oLA 0 28), (28, oGe 5 0 31)]
theorem B160_1_ok : ∀ q ∈ B160_1, Ok M160 q.1 q.2 := List.forall_mem_cons.mpr ⟨k_160_15, List.forall_mem_cons.mpr ⟨k_160_18, List.forall_mem_cons.mpr ⟨k_160_19, List.forall_mem_cons.mpr ⟨k_160_22, List.forall_mem_cons.mpr ⟨k_160_25, List.forall_mem_cons.mpr ⟨k_160_26, List.forall_mem_cons.mpr ⟨k_160_27, List.forall_mem_cons.mpr ⟨k_160_28, fun _ h => absurd h List.not_mem_nil⟩⟩⟩⟩⟩⟩⟩⟩
def B160_2 : List (Nat × aO) := [(31, oS (gKo (.int 3)) 32), (32, oAI 33), (33, oSI 3 8 34), (34, oLA 0 35), (35, oGe 5 0 38), (38, oS (gKo (.int 8)) 40), (40, oAI 41), (41, oSI 4 8 43)]
theorem B160_2_ok : ∀ q ∈ B160_2, Ok M160 q.1 q.2 := List.forall_mem_cons.mpr ⟨k_160_31, List.forall_mem_cons.mpr ⟨k_160_32, List.forall_mem_cons.mpr ⟨k_160_33, List.forall_mem_cons.mpr ⟨k_160_34, List.forall_mem_cons.mpr ⟨k_160_35, List.forall_mem_cons.mpr ⟨k_160_38, List.forall_mem_cons.mpr ⟨k_160_40, List.forall_mem_cons.mpr ⟨k_160_41, fun _ h => absurd h List.not_mem_nil⟩⟩⟩⟩⟩⟩⟩⟩
def B160_3 : List (Nat × aO) := [(43, oLA 0 44), (44, oLI 2 45), (45, oCV 5 152 1), (48, oS (gKo (.int 0)) 49), (49, oSI 5 8 51), (51, oLI 2 52), (52, oB1 b_if_eq q_eq 185 55), (55, oLA 0 56)]
theorem B160_3_ok : ∀ q ∈ B160_3, Ok M160 q.1 q.2 := List.forall_mem_cons.mpr ⟨k_160_43, List.forall_mem_cons.mpr ⟨k_160_44, List.forall_mem_cons.mpr ⟨k_160_45, List.forall_mem_cons.mpr ⟨k_160_48, List.forall_mem_cons.mpr ⟨k_160_49, List.forall_mem_cons.mpr ⟨k_160_51, List.forall_mem_cons.mpr ⟨k_160_52, List.forall_mem_cons.mpr ⟨k_160_55, fun _ h => absurd h List.not_mem_nil⟩⟩⟩⟩⟩⟩⟩⟩
def B160_4 : List (Nat × aO) := [(56, oCV 5 125 0), (59, oLA 0 60), (60, oGe 5 12 63), (63, oLA 0 64), (64, oGe 5 0 67), (67, oS (gKo (.int 0)) 68), (68, oAI 69), (69, oLI 2 70)]
theorem B160_4_ok : ∀ q ∈ B160_4, Ok M160 q.1 q.2 := List.forall_mem_cons.mpr ⟨k_160_56, List.forall_mem_cons.mpr ⟨k_160_59, List.forall_mem_cons.mpr ⟨k_160_60, List.forall_mem_cons.mpr ⟨k_160_63, List.forall_mem_cons.mpr ⟨k_160_64, List.forall_mem_cons.mpr ⟨k_160_67, List.forall_mem_cons.mpr ⟨k_160_68, List.forall_mem_cons.mpr ⟨k_160_69, fun _ h => absurd h List.not_mem_nil⟩⟩⟩⟩⟩⟩⟩⟩
def B160_5 : List (Nat × aO) := [(70, oCS 98 1), (73, oS (gI2 f_isub) 74), (74, oAI 75), (75, oSI 6 8 77), (77, oLA 0 78), (78, oLI 2 79), (79, oCV 5 151 1), (82, oLA 0 83)]
theorem B160_5_ok : ∀ q ∈ B160_5, Ok M160 q.1 q.2 := List.forall_mem_cons.mpr ⟨k_160_70, List.forall_mem_cons.mpr ⟨k_160_73, List.forall_mem_cons.mpr ⟨k_160_74, List.forall_mem_cons.mpr ⟨k_160_75, List.forall_mem_cons.mpr ⟨k_160_77, List.forall_mem_cons.mpr ⟨k_160_78, List.forall_mem_cons.mpr ⟨k_160_79, List.forall_mem_cons.mpr ⟨k_160_82, fun _ h => absurd h List.not_mem_nil⟩⟩⟩⟩⟩⟩⟩⟩
def B160_6 : List (Nat × aO) := [(83, oLI 2 84), (84, oLI 3 85), (85, oLI 4 87), (87, oLI 6 89), (89, oCV 5 150 4), (92, oSI 7 8 94), (94, oLA 0 95), (95, oLI 2 96)]
theorem B160_6_ok : ∀ q ∈ B160_6, Ok M160 q.1 q.2 := List.forall_mem_cons.mpr ⟨k_160_83, List.forall_mem_cons.mpr ⟨k_160_84, List.forall_mem_cons.mpr ⟨k_160_85, List.forall_mem_cons.mpr ⟨k_160_87, List.forall_mem_cons.mpr ⟨k_160_89, List.forall_mem_cons.mpr ⟨k_160_92, List.forall_mem_cons.mpr ⟨k_160_94, List.forall_mem_cons.mpr ⟨k_160_95, fun _ h => absurd h List.not_mem_nil⟩⟩⟩⟩⟩⟩⟩⟩
def B160_7 : List (Nat × aO) := [(96, oLI 3 97), (97, oLI 4 99), (99, oLI 6 101), (101, oLI 7 103), (103, oCV 5 149 5), (106, oLI 5 108), (108, oLI 1 109), (109, oB2 b_icmp_ne q_ne 137 112)]
theorem B160_7_ok : ∀ q ∈ B160_7, Ok M160 q.1 q.2 := List.forall_mem_cons.mpr ⟨k_160_96, List.forall_mem_cons.mpr ⟨k_160_97, List.forall_mem_cons.mpr ⟨k_160_99, List.forall_mem_cons.mpr ⟨k_160_101, List.forall_mem_cons.mpr ⟨k_160_103, List.forall_mem_cons.mpr ⟨k_160_106, List.forall_mem_cons.mpr ⟨k_160_108, List.forall_mem_cons.mpr ⟨k_160_109, fun _ h => absurd h List.not_mem_nil⟩⟩⟩⟩⟩⟩⟩⟩
def B160_8 : List (Nat × aO) := [(112, oS (gKo (.int 10)) 114), (114, oLI 7 116), (116, oS (gI2 f_imul) 117), (117, oLA 0 118), (118, oGe 5 19 121), (121, oS (gKo (.int (-1))) 122), (122, oB2 b_icmp_ne q_ne 129 125), (125, oS (gKo (.int 0)) 126)]
theorem B160_8_ok : ∀ q ∈ B160_8, Ok M160 q.1 q.2 := List.forall_mem_cons.mpr ⟨k_160_112, List.forall_mem_cons.mpr ⟨k_160_114, List.forall_mem_cons.mpr ⟨k_160_116, List.forall_mem_cons.mpr ⟨k_160_117, List.forall_mem_cons.mpr ⟨k_160_118, List.forall_mem_cons.mpr ⟨k_160_121, List.forall_mem_cons.mpr ⟨k_160_122, List.forall_mem_cons.mpr ⟨k_160_125, fun _ h => absurd h List.not_mem_nil⟩⟩⟩⟩⟩⟩⟩⟩
def B160_9 : List (Nat × aO) := [(126, oGo 135), (129, oLA 0 130), (130, oGe 5 19 133), (133, oS (gKo (.int 1)) 134), (134, oS (gI2 f_iadd) 135), (135, oS (gI2 f_iadd) 136), (136, oRI), (137, oInc 5 1 8 140)]
theorem B160_9_ok : ∀ q ∈ B160_9, Ok M160 q.1 q.2 := List.forall_mem_cons.mpr ⟨k_160_126, List.forall_mem_cons.mpr ⟨k_160_129, List.forall_mem_cons.mpr ⟨k_160_130, List.forall_mem_cons.mpr ⟨k_160_133, List.forall_mem_cons.mpr ⟨k_160_134, List.forall_mem_cons.mpr ⟨k_160_135, List.forall_mem_cons.mpr ⟨k_160_136, List.forall_mem_cons.mpr ⟨k_160_137, fun _ h => absurd h List.not_mem_nil⟩⟩⟩⟩⟩⟩⟩⟩
def B160_10 : List (Nat × aO) := [(140, oLA 0 141), (141, oGe 5 19 144), (144, oS (gKo (.int (-1))) 145), (145, oB2 b_icmp_ne q_ne 162 148), (148, oLI 2 149), (149, oS (gKo (.int 1)) 150), (150, oLI 7 152), (152, oS (gI2 f_ishl) 153)]
theorem B160_10_ok : ∀ q ∈ B160_10, Ok M160 q.1 q.2 := List.forall_mem_cons.mpr ⟨k_160_140, List.forall_mem_cons.mpr ⟨k_160_141, List.forall_mem_cons.mpr ⟨k_160_144, List.forall_mem_cons.mpr ⟨k_160_145, List.forall_mem_cons.mpr ⟨k_160_148, List.forall_mem_cons.mpr ⟨k_160_149, List.forall_mem_cons.mpr ⟨k_160_150, List.forall_mem_cons.mpr ⟨k_160_152, fun _ h => absurd h List.not_mem_nil⟩⟩⟩⟩⟩⟩⟩⟩
def B160_11 : List (Nat × aO) := [(153, oS (gKo (.int (-1))) 154), (154, oS (gI2 f_ixor) 155), (155, oS (gI2 f_iand) 156), (156, oSI 2 8 157), (157, oS (gKo (.int 0)) 158), (158, oSI 3 8 159), (159, oGo 182), (162, oLI 3 163)]
theorem B160_11_ok : ∀ q ∈ B160_11, Ok M160 q.1 q.2 := List.forall_mem_cons.mpr ⟨k_160_153, List.forall_mem_cons.mpr ⟨k_160_154, List.forall_mem_cons.mpr ⟨k_160_155, List.forall_mem_cons.mpr ⟨k_160_156, List.forall_mem_cons.mpr ⟨k_160_157, List.forall_mem_cons.mpr ⟨k_160_158, List.forall_mem_cons.mpr ⟨k_160_159, List.forall_mem_cons.mpr ⟨k_160_162, fun _ h => absurd h List.not_mem_nil⟩⟩⟩⟩⟩⟩⟩⟩
def B160_12 : List (Nat × aO) := [(163, oS (gKo (.int 1)) 164), (164, oLI 7 166), (166, oS (gI2 f_ishl) 167), (167, oS (gI2 f_ior) 168), (168, oSI 3 8 169), (169, oLI 4 171), (171, oS (gKo (.int 1)) 172), (172, oLA 0 173)]
theorem B160_12_ok : ∀ q ∈ B160_12, Ok M160 q.1 q.2 := List.forall_mem_cons.mpr ⟨k_160_163, List.forall_mem_cons.mpr ⟨k_160_164, List.forall_mem_cons.mpr ⟨k_160_166, List.forall_mem_cons.mpr ⟨k_160_167, List.forall_mem_cons.mpr ⟨k_160_168, List.forall_mem_cons.mpr ⟨k_160_169, List.forall_mem_cons.mpr ⟨k_160_171, List.forall_mem_cons.mpr ⟨k_160_172, fun _ h => absurd h List.not_mem_nil⟩⟩⟩⟩⟩⟩⟩⟩
def B160_13 : List (Nat × aO) := [(173, oGe 5 19 176), (176, oS (gI2 f_ishl) 177), (177, oS (gKo (.int (-1))) 178), (178, oS (gI2 f_ixor) 179), (179, oS (gI2 f_iand) 180), (180, oSI 4 8 182), (182, oGo 51), (185, oS (gKo (.int (-1))) 186)]
theorem B160_13_ok : ∀ q ∈ B160_13, Ok M160 q.1 q.2 := List.forall_mem_cons.mpr ⟨k_160_173, List.forall_mem_cons.mpr ⟨k_160_176, List.forall_mem_cons.mpr ⟨k_160_177, List.forall_mem_cons.mpr ⟨k_160_178, List.forall_mem_cons.mpr ⟨k_160_179, List.forall_mem_cons.mpr ⟨k_160_180, List.forall_mem_cons.mpr ⟨k_160_182, List.forall_mem_cons.mpr ⟨k_160_185, fun _ h => absurd h List.not_mem_nil⟩⟩⟩⟩⟩⟩⟩⟩
def B160_14 : List (Nat × aO) := [(186, oRI)]
theorem B160_14_ok : ∀ q ∈ B160_14, Ok M160 q.1 q.2 := List.forall_mem_cons.mpr ⟨k_160_186, fun _ h => absurd h List.not_mem_nil⟩
def P160 : List (Nat × List (Nat × aO)) := [(12, B160_0), (28, B160_1), (41, B160_2), (55, B160_3), (69, B160_4), (82, B160_5), (95, B160_6), (109, B160_7), (125, B160_8), (137, B160_9), (152, B160_10), (162, B160_11), (172, B160_12), (185, B160_13), (186, B160_14)]
theorem P160_ok : ∀ b ∈ P160, ∀ q ∈ b.2, Ok M160 q.1 q.2 := List.forall_mem_cons.mpr ⟨B160_0_ok, List.forall_mem_cons.mpr ⟨B160_1_ok, List.forall_mem_cons.mpr ⟨B160_2_ok, List.forall_mem_cons.mpr ⟨B160_3_ok, List.forall_mem_cons.mpr ⟨B160_4_ok, List.forall_mem_cons.mpr ⟨B160_5_ok, List.forall_mem_cons.mpr ⟨B160_6_ok, List.forall_mem_cons.mpr ⟨B160_7_ok, List.forall_mem_cons.mpr ⟨B160_8_ok, List.forall_mem_cons.mpr ⟨B160_9_ok, List.forall_mem_cons.mpr ⟨B160_10_ok, List.forall_mem_cons.mpr ⟨B160_11_ok, List.forall_mem_cons.mpr ⟨B160_12_ok, List.forall_mem_cons.mpr ⟨B160_13_ok, List.forall_mem_cons.mpr ⟨B160_14_ok, fun _ h => absurd h List.not_mem_nil⟩⟩⟩⟩⟩⟩⟩⟩⟩⟩⟩⟩⟩⟩⟩
theorem k_161_0 : Ok M161 0 (oLA 0 1) := r_aload_n (j := 0) (by decide +kernel) rfl
theorem k_161_1 : Ok M161 1 (oLI 1 2) := r_iload_n (j := 1) (by decide +kernel) rfl
theorem k_161_2 : Ok M161 2 (oCV 5 103 1) := r_callV (idx := 174) (by decide +kernel) w_872 cv_103
theorem k_161_5 : Ok M161 5 (oB1 b_if_eq q_eq 16 8) := r_if_eq (off := 11) (by decide +kernel) (by decide +kernel)
theorem k_161_8 : Ok M161 8 (oLA 0 9) := r_aload_n (j := 0) (by decide +kernel) rfl
theorem k_161_9 : Ok M161 9 (oLI 1 10) := r_iload_n (j := 1) (by decide +kernel) rfl
theorem k_161_10 : Ok M161 10 (oCV 5 162 1) := r_callV (idx := 239) (by decide +kernel) w_1009 cv_162
theorem k_161_13 : Ok M161 13 (oGo 22) := r_goto (off := 9) (by decide +kernel) (by decide +kernel)
theorem k_161_16 : Ok M161 16 (oLA 0 17) := r_aload_n (j := 0) (by decide +kernel) rfl
theorem k_161_17 : Ok M161 17 (oS (gKo (.int (-2))) 19) := r_bipush (n := (-2)) (by decide +kernel) (by decide +kernel)
theorem k_161_19 : Ok M161 19 (oCV 5 99 1) := r_callV (idx := 54) (by decide +kernel) w_747 cv_99
theorem k_161_22 : Ok M161 22 (oRI) := r_ireturn rfl (by decide +kernel)
def B161_0 : List (Nat × aO) := [(0, oLA 0 1), (1, oLI 1 2), (2, oCV 5 103 1), (5, oB1 b_if_eq q_eq 16 8), (8, oLA 0 9), (9, oLI 1 10), (10, oCV 5 162 1), (13, oGo 22)]
theorem B161_0_ok : ∀ q ∈ B161_0, Ok M161 q.1 q.2 := List.forall_mem_cons.mpr ⟨k_161_0, List.forall_mem_cons.mpr ⟨k_161_1, List.forall_mem_cons.mpr ⟨k_161_2, List.forall_mem_cons.mpr ⟨k_161_5, List.forall_mem_cons.mpr ⟨k_161_8, List.forall_mem_cons.mpr ⟨k_161_9, List.forall_mem_cons.mpr ⟨k_161_10, List.forall_mem_cons.mpr ⟨k_161_13, fun _ h => absurd h List.not_mem_nil⟩⟩⟩⟩⟩⟩⟩⟩
def B161_1 : List (Nat × aO) := [(16, oLA 0 17), (17, oS (gKo (.int (-2))) 19), (19, oCV 5 99 1), (22, oRI)]
theorem B161_1_ok : ∀ q ∈ B161_1, Ok M161 q.1 q.2 := List.forall_mem_cons.mpr ⟨k_161_16, List.forall_mem_cons.mpr ⟨k_161_17, List.forall_mem_cons.mpr ⟨k_161_19, List.forall_mem_cons.mpr ⟨k_161_22, fun _ h => absurd h List.not_mem_nil⟩⟩⟩⟩
def P161 : List (Nat × List (Nat × aO)) := [(13, B161_0), (22, B161_1)]
theorem P161_ok : ∀ b ∈ P161, ∀ q ∈ b.2, Ok M161 q.1 q.2 := List.forall_mem_cons.mpr ⟨B161_0_ok, List.forall_mem_cons.mpr ⟨B161_1_ok, fun _ h => absurd h List.not_mem_nil⟩⟩
theorem k_162_0 : Ok M162 0 (oLA 0 1) := r_aload_n (j := 0) (by decide +kernel) rfl
theorem k_162_1 : Ok M162 1 (oLI 1 2) := r_iload_n (j := 1) (by decide +kernel) rfl
theorem k_162_2 : Ok M162 2 (oCV 5 129 1) := r_callV (idx := 165) (by decide +kernel) w_881 cv_129
theorem k_162_5 : Ok M162 5 (oSI 2 9 6) := r_istore_n (j := 2) (by decide +kernel) rfl
theorem k_162_6 : Ok M162 6 (oLA 0 7) := r_aload_n (j := 0) (by decide +kernel) rfl
theorem k_162_7 : Ok M162 7 (oCV 5 153 0) := r_callV (idx := 227) (by decide +kernel) w_955 cv_153
theorem k_162_10 : Ok M162 10 (oB1 b_if_eq q_eq 20 13) := r_if_eq (off := 10) (by decide +kernel) (by decide +kernel)
theorem k_162_13 : Ok M162 13 (oLA 0 14) := r_aload_n (j := 0) (by decide +kernel) rfl
theorem k_162_14 : Ok M162 14 (oCV 5 142 0) := r_callV (idx := 191) (by decide +kernel) w_935 cv_142
theorem k_162_17 : Ok M162 17 (oGo 21) := r_goto (off := 4) (by decide +kernel) (by decide +kernel)
theorem k_162_20 : Ok M162 20 (oS (gKo (.int 0)) 21) := r_iconst (n := 0) (by decide +kernel) (by decide +kernel)
theorem k_162_21 : Ok M162 21 (oSI 3 9 22) := r_istore_n (j := 3) (by decide +kernel) rfl
theorem k_162_22 : Ok M162 22 (oLA 0 23) := r_aload_n (j := 0) (by decide +kernel) rfl
theorem k_162_23 : Ok M162 23 (oGe 5 0 26) := r_get (idx := 7) (by decide +kernel) cd_5 0 (by decide) w_678 rfl
theorem k_162_26 : Ok M162 26 (oS (gKo (.int 3)) 27) := r_iconst (n := 3) (by decide +kernel) (by decide +kernel)
theorem k_162_27 : Ok M162 27 (oAI 28) := r_iaload (by decide +kernel)
theorem k_162_28 : Ok M162 28 (oSI 4 9 30) := r_istore (by decide +kernel)
theorem k_162_30 : Ok M162 30 (oLA 0 31) := r_aload_n (j := 0) (by decide +kernel) rfl
theorem k_162_31 : Ok M162 31 (oCV 5 125 0) := r_callV (idx := 149) (by decide +kernel) w_840 cv_125
theorem k_162_34 : Ok M162 34 (oLI 3 35) := r_iload_n (j := 3) (by decide +kernel) rfl
theorem k_162_35 : Ok M162 35 (oB1 b_if_eq q_eq 170 38) := r_if_eq (off := 135) (by decide +kernel) (by decide +kernel)
theorem k_162_38 : Ok M162 38 (oLA 0 39) := r_aload_n (j := 0) (by decide +kernel) rfl
theorem k_162_39 : Ok M162 39 (oGe 5 12 42) := r_get (idx := 22) (by decide +kernel) cd_5 12 (by decide) w_690 rfl
theorem k_162_42 : Ok M162 42 (oLA 0 43) := r_aload_n (j := 0) (by decide +kernel) rfl
theorem k_162_43 : Ok M162 43 (oGe 5 0 46) := r_get (idx := 7) (by decide +kernel) cd_5 0 (by decide) w_678 rfl
theorem k_162_46 : Ok M162 46 (oS (gKo (.int 0)) 47) := r_iconst (n := 0) (by decide +kernel) (by decide +kernel)
theorem k_162_47 : Ok M162 47 (oAI 48) := r_iaload (by decide +kernel)
theorem k_162_48 : Ok M162 48 (oLI 3 49) := r_iload_n (j := 3) (by decide +kernel) rfl
theorem k_162_49 : Ok M162 49 (oCS 98 1) := r_callS (idx := 213) (by decide +kernel) w_967 cs_98
theorem k_162_52 : Ok M162 52 (oS (gI2 f_isub) 53) := r_isub (by decide +kernel)
theorem k_162_53 : Ok M162 53 (oAI 54) := r_iaload (by decide +kernel)
theorem k_162_54 : Ok M162 54 (oSI 5 9 56) := r_istore (by decide +kernel)
theorem k_162_56 : Ok M162 56 (oS (gKo (.int (-1))) 57) := r_iconst (n := (-1)) (by decide +kernel) (by decide +kernel)
theorem k_162_57 : Ok M162 57 (oSI 6 9 59) := r_istore (by decide +kernel)
theorem k_162_59 : Ok M162 59 (oS (gKo (.int 0)) 60) := r_iconst (n := 0) (by decide +kernel) (by decide +kernel)
theorem k_162_60 : Ok M162 60 (oSI 7 9 62) := r_istore (by decide +kernel)
theorem k_162_62 : Ok M162 62 (oLI 7 64) := r_iload (by decide +kernel)
theorem k_162_64 : Ok M162 64 (oS (gKo (.int 6)) 66) := r_bipush (n := 6) (by decide +kernel) (by decide +kernel)
theorem k_162_66 : Ok M162 66 (oB2 b_icmp_ge q_ge 135 69) := r_icmp_ge (off := 69) (by decide +kernel) (by decide +kernel)
theorem k_162_69 : Ok M162 69 (oLI 3 70) := r_iload_n (j := 3) (by decide +kernel) rfl
theorem k_162_70 : Ok M162 70 (oLI 4 72) := r_iload (by decide +kernel)
theorem k_162_72 : Ok M162 72 (oS (gKo (.int (-1))) 73) := r_iconst (n := (-1)) (by decide +kernel) (by decide +kernel)
theorem k_162_73 : Ok M162 73 (oS (gI2 f_ixor) 74) := r_ixor (by decide +kernel)
theorem k_162_74 : Ok M162 74 (oS (gI2 f_iand) 75) := r_iand (by decide +kernel)
theorem k_162_75 : Ok M162 75 (oLI 7 77) := r_iload (by decide +kernel)
theorem k_162_77 : Ok M162 77 (oCS 97 2) := r_callS (idx := 92) (by decide +kernel) w_799 cs_97
theorem k_162_80 : Ok M162 80 (oB1 b_if_eq q_eq 112 83) := r_if_eq (off := 32) (by decide +kernel) (by decide +kernel)
theorem k_162_83 : Ok M162 83 (oLI 6 85) := r_iload (by decide +kernel)
theorem k_162_85 : Ok M162 85 (oS (gKo (.int (-1))) 86) := r_iconst (n := (-1)) (by decide +kernel) (by decide +kernel)
theorem k_162_86 : Ok M162 86 (oB2 b_icmp_eq q_eq 108 89) := r_icmp_eq (off := 22) (by decide +kernel) (by decide +kernel)
theorem k_162_89 : Ok M162 89 (oLA 0 90) := r_aload_n (j := 0) (by decide +kernel) rfl
theorem k_162_90 : Ok M162 90 (oLI 5 92) := r_iload (by decide +kernel)
theorem k_162_92 : Ok M162 92 (oLI 7 94) := r_iload (by decide +kernel)
theorem k_162_94 : Ok M162 94 (oCV 5 104 2) := r_callV (idx := 155) (by decide +kernel) w_885 cv_104
theorem k_162_97 : Ok M162 97 (oLA 0 98) := r_aload_n (j := 0) (by decide +kernel) rfl
theorem k_162_98 : Ok M162 98 (oLI 5 100) := r_iload (by decide +kernel)
theorem k_162_100 : Ok M162 100 (oLI 6 102) := r_iload (by decide +kernel)
theorem k_162_102 : Ok M162 102 (oCV 5 104 2) := r_callV (idx := 155) (by decide +kernel) w_885 cv_104
theorem k_162_105 : Ok M162 105 (oB2 b_icmp_le q_le 112 108) := r_icmp_le (off := 7) (by decide +kernel) (by decide +kernel)
theorem k_162_108 : Ok M162 108 (oS (gKo (.int 1)) 109) := r_iconst (n := 1) (by decide +kernel) (by decide +kernel)
theorem k_162_109 : Ok M162 109 (oGo 113) := r_goto (off := 4) (by decide +kernel) (by decide +kernel)
theorem k_162_112 : Ok M162 112 (oS (gKo (.int 0)) 113) := r_iconst (n := 0) (by decide +kernel) (by decide +kernel)
theorem k_162_113 : Ok M162 113 (oSI 8 9 115) := r_istore (by decide +kernel)
theorem k_162_115 : Ok M162 115 (oLI 8 117) := r_iload (by decide +kernel)
theorem k_162_117 : Ok M162 117 (oB1 b_if_eq q_eq 125 120) := r_if_eq (off := 8) (by decide +kernel) (by decide +kernel)
theorem k_162_120 : Ok M162 120 (oLI 7 122) := r_iload (by decide +kernel)
theorem k_162_122 : Ok M162 122 (oGo 127) := r_goto (off := 5) (by decide +kernel) (by decide +kernel)
theorem k_162_125 : Ok M162 125 (oLI 6 127) := r_iload (by decide +kernel)
theorem k_162_127 : Ok M162 127 (oSI 6 9 129) := r_istore (by decide +kernel)
theorem k_162_129 : Ok M162 129 (oInc 7 1 9 132) := r_iinc (n := 1) (by decide +kernel) (by decide +kernel)
theorem k_162_132 : Ok M162 132 (oGo 62) := r_goto (off := (-70)) (by decide +kernel) (by decide +kernel)
theorem k_162_135 : Ok M162 135 (oLI 2 136) := r_iload_n (j := 2) (by decide +kernel) rfl
theorem k_162_136 : Ok M162 136 (oLI 5 138) := r_iload (by decide +kernel)
theorem k_162_138 : Ok M162 138 (oLI 1 139) := r_iload_n (j := 1) (by decide +kernel) rfl
theorem k_162_139 : Ok M162 139 (oB2 b_icmp_ne q_ne 152 142) := r_icmp_ne (off := 13) (by decide +kernel) (by decide +kernel)
theorem k_162_142 : Ok M162 142 (oLA 0 143) := r_aload_n (j := 0) (by decide +kernel) rfl
theorem k_162_143 : Ok M162 143 (oLI 1 144) := r_iload_n (j := 1) (by decide +kernel) rfl
theorem k_162_144 : Ok M162 144 (oLI 6 146) := r_iload (by decide +kernel)
theorem k_162_146 : Ok M162 146 (oCV 5 104 2) := r_callV (idx := 155) (by decide +kernel) w_885 cv_104
theorem k_162_149 : Ok M162 149 (oGo 153) := r_goto (off := 4) (by decide +kernel) (by decide +kernel)
theorem k_162_152 : Ok M162 152 (oS (gKo (.int 0)) 153) := r_iconst (n := 0) (by decide +kernel) (by decide +kernel)
theorem k_162_153 : Ok M162 153 (oS (gI2 f_iadd) 154) := r_iadd (by decide +kernel)
theorem k_162_154 : Ok M162 154 (oSI 2 9 155) := r_istore_n (j := 2) (by decide +kernel) rfl
theorem k_162_155 : Ok M162 155 (oLI 3 156) := r_iload_n (j := 3) (by decide +kernel) rfl
theorem k_162_156 : Ok M162 156 (oS (gKo (.int 1)) 157) := r_iconst (n := 1) (by decide +kernel) (by decide +kernel)
theorem k_162_157 : Ok M162 157 (oLI 6 159) := r_iload (by decide +kernel)
theorem k_162_159 : Ok M162 159 (oS (gI2 f_ishl) 160) := r_ishl (by decide +kernel)
theorem k_162_160 : Ok M162 160 (oS (gKo (.int (-1))) 161) := r_iconst (n := (-1)) (by decide +kernel) (by decide +kernel)
theorem k_162_161 : Ok M162 161 (oS (gI2 f_ixor) 162) := r_ixor (by decide +kernel)
theorem k_162_162 : Ok M162 162 (oS (gI2 f_iand) 163) := r_iand (by decide +kernel)
theorem k_162_163 : Ok M162 163 (oSI 3 9 164) := r_istore_n (j := 3) (by decide +kernel) rfl
theorem k_162_164 : Ok M162 164 (oS (gKo (.int 0)) 165) := r_iconst (n := 0) (by decide +kernel) (by decide +kernel)
theorem k_162_165 : Ok M162 165 (oSI 4 9 167) := r_istore (by decide +kernel)
theorem k_162_167 : Ok M162 167 (oGo 34) := r_goto (off := (-133)) (by decide +kernel) (by decide +kernel)
theorem k_162_170 : Ok M162 170 (oLI 2 171) := r_iload_n (j := 2) (by decide +kernel) rfl
theorem k_162_171 : Ok M162 171 (oRI) := r_ireturn rfl (by decide +kernel)
def B162_0 : List (Nat × aO) := [(0, oLA 0 1), (1, oLI 1 2), (2, oCV 5 129 1), (5, oSI 2 9 6), (6, oLA 0 7), (7, oCV 5 153 0), (10, oB1 b_if_eq q_eq 20 13), (13, oLA 0 14)]
theorem B162_0_ok : ∀ q ∈ B162_0, Ok M162 q.1 q.2 := List.forall_mem_cons.mpr ⟨k_162_0, List.forall_mem_cons.mpr ⟨k_162_1, List.forall_mem_cons.mpr ⟨k_162_2, List.forall_mem_cons.mpr ⟨k_162_5, List.forall_mem_cons.mpr ⟨k_162_6, List.forall_mem_cons.mpr ⟨k_162_7, List.forall_mem_cons.mpr ⟨k_162_10, List.forall_mem_cons.mpr ⟨k_162_13, fun _ h => absurd h List.not_mem_nil⟩⟩⟩⟩⟩⟩⟩⟩
def B162_1 : List (Nat × aO) := [(14, oCV 5 142 0), (17, oGo 21), (20, oS (gKo (.int 0)) 21), (21, oSI 3 9 22), (22, oLA 0 23), (23, oGe 5 0 26), (26, oS (gKo (.int 3)) 27), (27, oAI 28)]
theorem B162_1_ok : ∀ q ∈ B162_1, Ok M162 q.1 q.2 := List.forall_mem_cons.mpr ⟨k_162_14, List.forall_mem_cons.mpr ⟨k_162_17, List.forall_mem_cons.mpr ⟨k_162_20, List.forall_mem_cons.mpr ⟨k_162_21, List.forall_mem_cons.mpr ⟨k_162_22, List.forall_mem_cons.mpr ⟨k_162_23, List.forall_mem_cons.mpr ⟨k_162_26, List.forall_mem_cons.mpr ⟨k_162_27, fun _ h => absurd h List.not_mem_nil⟩⟩⟩⟩⟩⟩⟩⟩
def B162_2 : List (Nat × aO) := [(28, oSI 4 9 30), (30, oLA 0 31), (31, oCV 5 125 0), (34, oLI 3 35), (35, oB1 b_if_eq q_eq 170 38), (38, oLA 0 39), (39, oGe 5 12 42), (42, oLA 0 43)]
theorem B162_2_ok : ∀ q ∈ B162_2, Ok M162 q.1 q.2 := List.forall_mem_cons.mpr ⟨k_162_28, List.forall_mem_cons.mpr ⟨k_162_30, List.forall_mem_cons.mpr ⟨k_162_31, List.forall_mem_cons.mpr ⟨k_162_34, List.forall_mem_cons.mpr ⟨k_162_35, List.forall_mem_cons.mpr ⟨k_162_38, List.forall_mem_cons.mpr ⟨k_162_39, List.forall_mem_cons.mpr ⟨k_162_42, fun _ h => absurd h List.not_mem_nil⟩⟩⟩⟩⟩⟩⟩⟩
def B162_3 : List (Nat × aO) := [(43, oGe 5 0 46), (46, oS (gKo (.int 0)) 47), (47, oAI 48), (48, oLI 3 49), (49, oCS 98 1), (52, oS (gI2 f_isub) 53), (53, oAI 54), (54, oSI 5 9 56)]
theorem B162_3_ok : ∀ q ∈ B162_3, Ok M162 q.1 q.2 := List.forall_mem_cons.mpr ⟨k_162_43, List.forall_mem_cons.mpr ⟨k_162_46, List.forall_mem_cons.mpr ⟨k_162_47, List.forall_mem_cons.mpr ⟨k_162_48, List.forall_mem_cons.mpr ⟨k_162_49, List.forall_mem_cons.mpr ⟨k_162_52, List.forall_mem_cons.mpr ⟨k_162_53, List.forall_mem_cons.mpr ⟨k_162_54, fun _ h => absurd h List.not_mem_nil⟩⟩⟩⟩⟩⟩⟩⟩
def B162_4 : List (Nat × aO) := [(56, oS (gKo (.int (-1))) 57), (57, oSI 6 9 59), (59, oS (gKo (.int 0)) 60), (60, oSI 7 9 62), (62, oLI 7 64), (64, oS (gKo (.int 6)) 66), (66, oB2 b_icmp_ge q_ge 135 69), (69, oLI 3 70)]
theorem B162_4_ok : ∀ q ∈ B162_4, Ok M162 q.1 q.2 := List.forall_mem_cons.mpr ⟨k_162_56, List.forall_mem_cons.mpr ⟨k_162_57, List.forall_mem_cons.mpr ⟨k_162_59, List.forall_mem_cons.mpr ⟨k_162_60, List.forall_mem_cons.mpr ⟨k_162_62, List.forall_mem_cons.mpr ⟨k_162_64, List.forall_mem_cons.mpr ⟨k_162_66, List.forall_mem_cons.mpr ⟨k_162_69, fun _ h => absurd h List.not_mem_nil⟩⟩⟩⟩⟩⟩⟩⟩
def B162_5 : List (Nat × aO) := [(70, oLI 4 72), (72, oS (gKo (.int (-1))) 73), (73, oS (gI2 f_ixor) 74), (74, oS (gI2 f_iand) 75), (75, oLI 7 77), (77, oCS 97 2), (80, oB1 b_if_eq q_eq 112 83), (83, oLI 6 85)]
theorem B162_5_ok : ∀ q ∈ B162_5, Ok M162 q.1 q.2 := List.forall_mem_cons.mpr ⟨k_162_70, List.forall_mem_cons.mpr ⟨k_162_72, List.forall_mem_cons.mpr ⟨k_162_73, List.forall_mem_cons.mpr ⟨k_162_74, List.forall_mem_cons.mpr ⟨k_162_75, List.forall_mem_cons.mpr ⟨k_162_77, List.forall_mem_cons.mpr ⟨k_162_80, List.forall_mem_cons.mpr ⟨k_162_83, fun _ h => absurd h List.not_mem_nil⟩⟩⟩⟩⟩⟩⟩⟩
def B162_6 : List (Nat × aO) := [(85, oS (gKo (.int (-1))) 86), (86, oB2 b_icmp_eq q_eq 108 89), (89, oLA 0 90), (90, oLI 5 92), (92, oLI 7 94), (94, oCV 5 104 2), (97, oLA 0 98), (98, oLI 5 100)]
theorem B162_6_ok : ∀ q ∈ B162_6, Ok M162 q.1 q.2 := List.forall_mem_cons.mpr ⟨k_162_85, List.forall_mem_cons.mpr ⟨k_162_86, List.forall_mem_cons.mpr ⟨k_162_89, List.forall_mem_cons.mpr ⟨k_162_90, List.forall_mem_cons.mpr ⟨k_162_92, List.forall_mem_cons.mpr ⟨k_162_94, List.forall_mem_cons.mpr ⟨k_162_97, List.forall_mem_cons.mpr ⟨k_162_98, fun _ h => absurd h List.not_mem_nil⟩⟩⟩⟩⟩⟩⟩⟩
def B162_7 : List (Nat × aO) := [(100, oLI 6 102), (102, oCV 5 104 2), (105, oB2 b_icmp_le q_le 112 108), (108, oS (gKo (.int 1)) 109), (109, oGo 113), (112, oS (gKo (.int 0)) 113), (113, oSI 8 9 115), (115, oLI 8 117)]
theorem B162_7_ok : ∀ q ∈ B162_7, Ok M162 q.1 q.2 := List.forall_mem_cons.mpr ⟨k_162_100, List.forall_mem_cons.mpr ⟨k_162_102, List.forall_mem_cons.mpr ⟨k_162_105, List.forall_mem_cons.mpr ⟨k_162_108, List.forall_mem_cons.mpr ⟨k_162_109, List.forall_mem_cons.mpr ⟨k_162_112, List.forall_mem_cons.mpr ⟨k_162_113, List.forall_mem_cons.mpr ⟨k_162_115, fun _ h => absurd h List.not_mem_nil⟩⟩⟩⟩⟩⟩⟩⟩
def B162_8 : List (Nat × aO) := [(117, oB1 b_if_eq q_eq 125 120), (120, oLI 7 122), (122, oGo 127), (125, oLI 6 127), (127, oSI 6 9 129), (129, oInc 7 1 9 132), (132, oGo 62), (135, oLI 2 136)]
theorem B162_8_ok : ∀ q ∈ B162_8, Ok M162 q.1 q.2 := List.forall_mem_cons.mpr ⟨k_162_117, List.forall_mem_cons.mpr ⟨k_162_120, List.forall_mem_cons.mpr ⟨k_162_122, List.forall_mem_cons.mpr ⟨k_162_125, List.forall_mem_cons.mpr ⟨k_162_127, List.forall_mem_cons.mpr ⟨k_162_129, List.forall_mem_cons.mpr ⟨k_162_132, List.forall_mem_cons.mpr ⟨k_162_135, fun _ h => absurd h List.not_mem_nil⟩⟩⟩⟩⟩⟩⟩⟩
def B162_9 : List (Nat × aO) := [(136, oLI 5 138), (138, oLI 1 139), (139, oB2 b_icmp_ne q_ne 152 142), (142, oLA 0 143), (143, oLI 1 144), (144, oLI 6 146), (146, oCV 5 104 2), (149, oGo 153)]
theorem B162_9_ok : ∀ q ∈ B162_9, Ok M162 q.1 q.2 := List.forall_mem_cons.mpr ⟨k_162_136, List.forall_mem_cons.mpr ⟨k_162_138, List.forall_mem_cons.mpr ⟨k_162_139, List.forall_mem_cons.mpr ⟨k_162_142, List.forall_mem_cons.mpr ⟨k_162_143, List.forall_mem_cons.mpr ⟨k_162_144, List.forall_mem_cons.mpr ⟨k_162_146, List.forall_mem_cons.mpr ⟨k_162_149, fun _ h => absurd h List.not_mem_nil⟩⟩⟩⟩⟩⟩⟩⟩
def B162_10 : List (Nat × aO) := [(152, oS (gKo (.int 0)) 153), (153, oS (gI2 f_iadd) 154), (154, oSI 2 9 155), (155, oLI 3 156), (156, oS (gKo (.int 1)) 157), (157, oLI 6 159), (159, oS (gI2 f_ishl) 160), (160, oS (gKo (.int (-1))) 161)]
theorem B162_10_ok : ∀ q ∈ B162_10, Ok M162 q.1 q.2 := List.forall_mem_cons.mpr ⟨k_162_152, List.forall_mem_cons.mpr ⟨k_162_153, List.forall_mem_cons.mpr ⟨k_162_154, List.forall_mem_cons.mpr ⟨k_162_155, List.forall_mem_cons.mpr ⟨k_162_156, List.forall_mem_cons.mpr ⟨k_162_157, List.forall_mem_cons.mpr ⟨k_162_159, List.forall_mem_cons.mpr ⟨k_162_160, fun _ h => absurd h List.not_mem_nil⟩⟩⟩⟩⟩⟩⟩⟩
def B162_11 : List (Nat × aO) := [(161, oS (gI2 f_ixor) 162), (162, oS (gI2 f_iand) 163), (163, oSI 3 9 164), (164, oS (gKo (.int 0)) 165), (165, oSI 4 9 167), (167, oGo 34), (170, oLI 2 171), (171, oRI)]
theorem B162_11_ok : ∀ q ∈ B162_11, Ok M162 q.1 q.2 := List.forall_mem_cons.mpr ⟨k_162_161, List.forall_mem_cons.mpr ⟨k_162_162, List.forall_mem_cons.mpr ⟨k_162_163, List.forall_mem_cons.mpr ⟨k_162_164, List.forall_mem_cons.mpr ⟨k_162_165, List.forall_mem_cons.mpr ⟨k_162_167, List.forall_mem_cons.mpr ⟨k_162_170, List.forall_mem_cons.mpr ⟨k_162_171, fun _ h => absurd h List.not_mem_nil⟩⟩⟩⟩⟩⟩⟩⟩
def P162 : List (Nat × List (Nat × aO)) := [(13, B162_0), (27, B162_1), (42, B162_2), (54, B162_3), (69, B162_4), (83, B162_5), (98, B162_6), (115, B162_7), (135, B162_8), (149, B162_9), (160, B162_10), (171, B162_11)]
theorem P162_ok : ∀ b ∈ P162, ∀ q ∈ b.2, Ok M162 q.1 q.2 := List.forall_mem_cons.mpr ⟨B162_0_ok, List.forall_mem_cons.mpr ⟨B162_1_ok, List.forall_mem_cons.mpr ⟨B162_2_ok, List.forall_mem_cons.mpr ⟨B162_3_ok, List.forall_mem_cons.mpr ⟨B162_4_ok, List.forall_mem_cons.mpr ⟨B162_5_ok, List.forall_mem_cons.mpr ⟨B162_6_ok, List.forall_mem_cons.mpr ⟨B162_7_ok, List.forall_mem_cons.mpr ⟨B162_8_ok, List.forall_mem_cons.mpr ⟨B162_9_ok, List.forall_mem_cons.mpr ⟨B162_10_ok, List.forall_mem_cons.mpr ⟨B162_11_ok, fun _ h => absurd h List.not_mem_nil⟩⟩⟩⟩⟩⟩⟩⟩⟩⟩⟩⟩
theorem k_163_0 : Ok M163 0 (oLA 0 1) := r_aload_n (j := 0) (by decide +kernel) rfl
theorem k_163_1 : Ok M163 1 (oLI 1 2) := r_iload_n (j := 1) (by decide +kernel) rfl
theorem k_163_2 : Ok M163 2 (oCV 5 103 1) := r_callV (idx := 174) (by decide +kernel) w_872 cv_103
theorem k_163_5 : Ok M163 5 (oB1 b_if_eq q_eq 20 8) := r_if_eq (off := 15) (by decide +kernel) (by decide +kernel)
theorem k_163_8 : Ok M163 8 (oLI 2 9) := r_iload_n (j := 2) (by decide +kernel) rfl
theorem k_163_9 : Ok M163 9 (oS gIL 10) := r_i2l (by decide +kernel)
theorem k_163_10 : Ok M163 10 (oS (gKo (.long 0)) 11) := r_lconst (n := 0) (by decide +kernel) (by decide +kernel)
theorem k_163_11 : Ok M163 11 (oK (.long 2) 14) := r_ldc2 (i := 242) (by decide +kernel) w_1017
theorem k_163_14 : Ok M163 14 (oCS 96 3) := r_callS (idx := 48) (by decide +kernel) w_744 cs_96
theorem k_163_17 : Ok M163 17 (oB1 b_if_ne q_ne 27 20) := r_if_ne (off := 10) (by decide +kernel) (by decide +kernel)
theorem k_163_20 : Ok M163 20 (oLA 0 21) := r_aload_n (j := 0) (by decide +kernel) rfl
theorem k_163_21 : Ok M163 21 (oS (gKo (.int (-2))) 23) := r_bipush (n := (-2)) (by decide +kernel) (by decide +kernel)
theorem k_163_23 : Ok M163 23 (oCV 5 99 1) := r_callV (idx := 54) (by decide +kernel) w_747 cv_99
theorem k_163_26 : Ok M163 26 (oRI) := r_ireturn rfl (by decide +kernel)
theorem k_163_27 : Ok M163 27 (oLA 0 28) := r_aload_n (j := 0) (by decide +kernel) rfl
theorem k_163_28 : Ok M163 28 (oLI 1 29) := r_iload_n (j := 1) (by decide +kernel) rfl
theorem k_163_29 : Ok M163 29 (oLI 2 30) := r_iload_n (j := 2) (by decide +kernel) rfl
theorem k_163_30 : Ok M163 30 (oB1 b_if_ne q_ne 49 33) := r_if_ne (off := 19) (by decide +kernel) (by decide +kernel)
theorem k_163_33 : Ok M163 33 (oLA 0 34) := r_aload_n (j := 0) (by decide +kernel) rfl
theorem k_163_34 : Ok M163 34 (oGe 5 0 37) := r_get (idx := 7) (by decide +kernel) cd_5 0 (by decide) w_678 rfl
theorem k_163_37 : Ok M163 37 (oS (gKo (.int 8)) 39) := r_bipush (n := 8) (by decide +kernel) (by decide +kernel)
theorem k_163_39 : Ok M163 39 (oAI 40) := r_iaload (by decide +kernel)
theorem k_163_40 : Ok M163 40 (oS (gKo (.int 1)) 41) := r_iconst (n := 1) (by decide +kernel) (by decide +kernel)
theorem k_163_41 : Ok M163 41 (oLI 1 42) := r_iload_n (j := 1) (by decide +kernel) rfl
theorem k_163_42 : Ok M163 42 (oS (gI2 f_ishl) 43) := r_ishl (by decide +kernel)
theorem k_163_43 : Ok M163 43 (oS (gKo (.int (-1))) 44) := r_iconst (n := (-1)) (by decide +kernel) (by decide +kernel)
theorem k_163_44 : Ok M163 44 (oS (gI2 f_ixor) 45) := r_ixor (by decide +kernel)
theorem k_163_45 : Ok M163 45 (oS (gI2 f_iand) 46) := r_iand (by decide +kernel)
theorem k_163_46 : Ok M163 46 (oGo 68) := r_goto (off := 22) (by decide +kernel) (by decide +kernel)
theorem k_163_49 : Ok M163 49 (oLI 2 50) := r_iload_n (j := 2) (by decide +kernel) rfl
theorem k_163_50 : Ok M163 50 (oS (gKo (.int 1)) 51) := r_iconst (n := 1) (by decide +kernel) (by decide +kernel)
theorem k_163_51 : Ok M163 51 (oB2 b_icmp_ne q_ne 58 54) := r_icmp_ne (off := 7) (by decide +kernel) (by decide +kernel)
theorem k_163_54 : Ok M163 54 (oS (gKo (.int 0)) 55) := r_iconst (n := 0) (by decide +kernel) (by decide +kernel)
theorem k_163_55 : Ok M163 55 (oGo 68) := r_goto (off := 13) (by decide +kernel) (by decide +kernel)
theorem k_163_58 : Ok M163 58 (oS (gKo (.int 1)) 59) := r_iconst (n := 1) (by decide +kernel) (by decide +kernel)
theorem k_163_59 : Ok M163 59 (oLA 0 60) := r_aload_n (j := 0) (by decide +kernel) rfl
theorem k_163_60 : Ok M163 60 (oGe 5 0 63) := r_get (idx := 7) (by decide +kernel) cd_5 0 (by decide) w_678 rfl
theorem k_163_63 : Ok M163 63 (oS (gKo (.int 1)) 64) := r_iconst (n := 1) (by decide +kernel) (by decide +kernel)
theorem k_163_64 : Ok M163 64 (oAI 65) := r_iaload (by decide +kernel)
theorem k_163_65 : Ok M163 65 (oS (gI2 f_ishl) 66) := r_ishl (by decide +kernel)
theorem k_163_66 : Ok M163 66 (oS (gKo (.int 1)) 67) := r_iconst (n := 1) (by decide +kernel) (by decide +kernel)
theorem k_163_67 : Ok M163 67 (oS (gI2 f_isub) 68) := r_isub (by decide +kernel)
theorem k_163_68 : Ok M163 68 (oCV 5 154 2) := r_callV (idx := 233) (by decide +kernel) w_951 cv_154
theorem k_163_71 : Ok M163 71 (oRI) := r_ireturn rfl (by decide +kernel)
def B163_0 : List (Nat × aO) := [(0, oLA 0 1), (1, oLI 1 2), (2, oCV 5 103 1), (5, oB1 b_if_eq q_eq 20 8), (8, oLI 2 9), (9, oS gIL 10), (10, oS (gKo (.long 0)) 11), (11, oK (.long 2) 14)]
theorem B163_0_ok : ∀ q ∈ B163_0, Ok M163 q.1 q.2 := List.forall_mem_cons.mpr ⟨k_163_0, List.forall_mem_cons.mpr ⟨k_163_1, List.forall_mem_cons.mpr ⟨k_163_2, List.forall_mem_cons.mpr ⟨k_163_5, List.forall_mem_cons.mpr ⟨k_163_8, List.forall_mem_cons.mpr ⟨k_163_9, List.forall_mem_cons.mpr ⟨k_163_10, List.forall_mem_cons.mpr ⟨k_163_11, fun _ h => absurd h List.not_mem_nil⟩⟩⟩⟩⟩⟩⟩⟩
def B163_1 : List (Nat × aO) := [(14, oCS 96 3), (17, oB1 b_if_ne q_ne 27 20), (20, oLA 0 21), (21, oS (gKo (.int (-2))) 23), (23, oCV 5 99 1), (26, oRI), (27, oLA 0 28), (28, oLI 1 29)]
theorem B163_1_ok : ∀ q ∈ B163_1, Ok M163 q.1 q.2 := List.forall_mem_cons.mpr ⟨k_163_14, List.forall_mem_cons.mpr ⟨k_163_17, List.forall_mem_cons.mpr ⟨k_163_20, List.forall_mem_cons.mpr ⟨k_163_21, List.forall_mem_cons.mpr ⟨k_163_23, List.forall_mem_cons.mpr ⟨k_163_26, List.forall_mem_cons.mpr ⟨k_163_27, List.forall_mem_cons.mpr ⟨k_163_28, fun _ h => absurd h List.not_mem_nil⟩⟩⟩⟩⟩⟩⟩⟩
def B163_2 : List (Nat × aO) := [(29, oLI 2 30), (30, oB1 b_if_ne q_ne 49 33), (33, oLA 0 34), (34, oGe 5 0 37), (37, oS (gKo (.int 8)) 39), (39, oAI 40), (40, oS (gKo (.int 1)) 41), (41, oLI 1 42)]
theorem B163_2_ok : ∀ q ∈ B163_2, Ok M163 q.1 q.2 := List.forall_mem_cons.mpr ⟨k_163_29, List.forall_mem_cons.mpr ⟨k_163_30, List.forall_mem_cons.mpr ⟨k_163_33, List.forall_mem_cons.mpr ⟨k_163_34, List.forall_mem_cons.mpr ⟨k_163_37, List.forall_mem_cons.mpr ⟨k_163_39, List.forall_mem_cons.mpr ⟨k_163_40, List.forall_mem_cons.mpr ⟨k_163_41, fun _ h => absurd h List.not_mem_nil⟩⟩⟩⟩⟩⟩⟩⟩
def B163_3 : List (Nat × aO) := [(42, oS (gI2 f_ishl) 43), (43, oS (gKo (.int (-1))) 44), (44, oS (gI2 f_ixor) 45), (45, oS (gI2 f_iand) 46), (46, oGo 68), (49, oLI 2 50), (50, oS (gKo (.int 1)) 51), (51, oB2 b_icmp_ne q_ne 58 54)]
theorem B163_3_ok : ∀ q ∈ B163_3, Ok M163 q.1 q.2 := List.forall_mem_cons.mpr ⟨k_163_42, List.forall_mem_cons.mpr ⟨k_163_43, List.forall_mem_cons.mpr ⟨k_163_44, List.forall_mem_cons.mpr ⟨k_163_45, List.forall_mem_cons.mpr ⟨k_163_46, List.forall_mem_cons.mpr ⟨k_163_49, List.forall_mem_cons.mpr ⟨k_163_50, List.forall_mem_cons.mpr ⟨k_163_51, fun _ h => absurd h List.not_mem_nil⟩⟩⟩⟩⟩⟩⟩⟩
def B163_4 : List (Nat × aO) := [(54, oS (gKo (.int 0)) 55), (55, oGo 68), (58, oS (gKo (.int 1)) 59), (59, oLA 0 60), (60, oGe 5 0 63), (63, oS (gKo (.int 1)) 64), (64, oAI 65), (65, oS (gI2 f_ishl) 66)]
theorem B163_4_ok : ∀ q ∈ B163_4, Ok M163 q.1 q.2 := List.forall_mem_cons.mpr ⟨k_163_54, List.forall_mem_cons.mpr ⟨k_163_55, List.forall_mem_cons.mpr ⟨k_163_58, List.forall_mem_cons.mpr ⟨k_163_59, List.forall_mem_cons.mpr ⟨k_163_60, List.forall_mem_cons.mpr ⟨k_163_63, List.forall_mem_cons.mpr ⟨k_163_64, List.forall_mem_cons.mpr ⟨k_163_65, fun _ h => absurd h List.not_mem_nil⟩⟩⟩⟩⟩⟩⟩⟩
def B163_5 : List (Nat × aO) := [(66, oS (gKo (.int 1)) 67), (67, oS (gI2 f_isub) 68), (68, oCV 5 154 2), (71, oRI)]
theorem B163_5_ok : ∀ q ∈ B163_5, Ok M163 q.1 q.2 := List.forall_mem_cons.mpr ⟨k_163_66, List.forall_mem_cons.mpr ⟨k_163_67, List.forall_mem_cons.mpr ⟨k_163_68, List.forall_mem_cons.mpr ⟨k_163_71, fun _ h => absurd h List.not_mem_nil⟩⟩⟩⟩
def P163 : List (Nat × List (Nat × aO)) := [(11, B163_0), (28, B163_1), (41, B163_2), (51, B163_3), (65, B163_4), (71, B163_5)]
theorem P163_ok : ∀ b ∈ P163, ∀ q ∈ b.2, Ok M163 q.1 q.2 := List.forall_mem_cons.mpr ⟨B163_0_ok, List.forall_mem_cons.mpr ⟨B163_1_ok, List.forall_mem_cons.mpr ⟨B163_2_ok, List.forall_mem_cons.mpr ⟨B163_3_ok, List.forall_mem_cons.mpr ⟨B163_4_ok, List.forall_mem_cons.mpr ⟨B163_5_ok, fun _ h => absurd h List.not_mem_nil⟩⟩⟩⟩⟩⟩
theorem k_164_0 : Ok M164 0 (oLA 0 1) := r_aload_n (j := 0) (by decide +kernel) rfl
theorem k_164_1 : Ok M164 1 (oGe 5 1 4) := r_get (idx := 40) (by decide +kernel) cd_5 1 (by decide) w_679 rfl
theorem k_164_4 : Ok M164 4 (oB1 b_if_ne q_ne 14 7) := r_if_ne (off := 10) (by decide +kernel) (by decide +kernel)
theorem k_164_7 : Ok M164 7 (oLA 0 8) := r_aload_n (j := 0) (by decide +kernel) rfl
theorem k_164_8 : Ok M164 8 (oS (gKo (.int (-3))) 10) := r_bipush (n := (-3)) (by decide +kernel) (by decide +kernel)
theorem k_164_10 : Ok M164 10 (oCV 5 99 1) := r_callV (idx := 54) (by decide +kernel) w_747 cv_99
theorem k_164_13 : Ok M164 13 (oRI) := r_ireturn rfl (by decide +kernel)
theorem k_164_14 : Ok M164 14 (oLA 0 15) := r_aload_n (j := 0) (by decide +kernel) rfl
theorem k_164_15 : Ok M164 15 (oS gDu 16) := r_dup (by decide +kernel)
theorem k_164_16 : Ok M164 16 (oGe 5 1 19) := r_get (idx := 40) (by decide +kernel) cd_5 1 (by decide) w_679 rfl
theorem k_164_19 : Ok M164 19 (oS (gKo (.int 1)) 20) := r_iconst (n := 1) (by decide +kernel) (by decide +kernel)
theorem k_164_20 : Ok M164 20 (oS (gI2 f_isub) 21) := r_isub (by decide +kernel)
theorem k_164_21 : Ok M164 21 (oPI 5 1 24) := r_putI (idx := 40) (by decide +kernel) cd_5 1 (by decide) w_679 rfl rfl (by decide +kernel)
theorem k_164_24 : Ok M164 24 (oLA 0 25) := r_aload_n (j := 0) (by decide +kernel) rfl
theorem k_164_25 : Ok M164 25 (oS (gKo (.int 55)) 27) := r_bipush (n := 55) (by decide +kernel) (by decide +kernel)
theorem k_164_27 : Ok M164 27 (oS (gKo (.int 55)) 29) := r_bipush (n := 55) (by decide +kernel) (by decide +kernel)
theorem k_164_29 : Ok M164 29 (oLA 0 30) := r_aload_n (j := 0) (by decide +kernel) rfl
theorem k_164_30 : Ok M164 30 (oGe 5 1 33) := r_get (idx := 40) (by decide +kernel) cd_5 1 (by decide) w_679 rfl
theorem k_164_33 : Ok M164 33 (oS (gI2 f_imul) 34) := r_imul (by decide +kernel)
theorem k_164_34 : Ok M164 34 (oS (gI2 f_iadd) 35) := r_iadd (by decide +kernel)
theorem k_164_35 : Ok M164 35 (oS (gKo (.int 0)) 36) := r_iconst (n := 0) (by decide +kernel) (by decide +kernel)
theorem k_164_36 : Ok M164 36 (oCV 5 100 2) := r_callV (idx := 44) (by decide +kernel) w_759 cv_100
theorem k_164_39 : Ok M164 39 (oLA 0 40) := r_aload_n (j := 0) (by decide +kernel) rfl
theorem k_164_40 : Ok M164 40 (oGe 5 1 43) := r_get (idx := 40) (by decide +kernel) cd_5 1 (by decide) w_679 rfl
theorem k_164_43 : Ok M164 43 (oRI) := r_ireturn rfl (by decide +kernel)
def B164_0 : List (Nat × aO) := [(0, oLA 0 1), (1, oGe 5 1 4), (4, oB1 b_if_ne q_ne 14 7), (7, oLA 0 8), (8, oS (gKo (.int (-3))) 10), (10, oCV 5 99 1), (13, oRI), (14, oLA 0 15)]
theorem B164_0_ok : ∀ q ∈ B164_0, Ok M164 q.1 q.2 := List.forall_mem_cons.mpr ⟨k_164_0, List.forall_mem_cons.mpr ⟨k_164_1, List.forall_mem_cons.mpr ⟨k_164_4, List.forall_mem_cons.mpr ⟨k_164_7, List.forall_mem_cons.mpr ⟨k_164_8, List.forall_mem_cons.mpr ⟨k_164_10, List.forall_mem_cons.mpr ⟨k_164_13, List.forall_mem_cons.mpr ⟨k_164_14, fun _ h => absurd h List.not_mem_nil⟩⟩⟩⟩⟩⟩⟩⟩
def B164_1 : List (Nat × aO) := [(15, oS gDu 16), (16, oGe 5 1 19), (19, oS (gKo (.int 1)) 20), (20, oS (gI2 f_isub) 21), (21, oPI 5 1 24), (24, oLA 0 25), (25, oS (gKo (.int 55)) 27), (27, oS (gKo (.int 55)) 29)]
theorem B164_1_ok : ∀ q ∈ B164_1, Ok M164 q.1 q.2 := List.forall_mem_cons.mpr ⟨k_164_15, List.forall_mem_cons.mpr ⟨k_164_16, List.forall_mem_cons.mpr ⟨k_164_19, List.forall_mem_cons.mpr ⟨k_164_20, List.forall_mem_cons.mpr ⟨k_164_21, List.forall_mem_cons.mpr ⟨k_164_24, List.forall_mem_cons.mpr ⟨k_164_25, List.forall_mem_cons.mpr ⟨k_164_27, fun _ h => absurd h List.not_mem_nil⟩⟩⟩⟩⟩⟩⟩⟩
def B164_2 : List (Nat × aO) := [(29, oLA 0 30), (30, oGe 5 1 33), (33, oS (gI2 f_imul) 34), (34, oS (gI2 f_iadd) 35), (35, oS (gKo (.int 0)) 36), (36, oCV 5 100 2), (39, oLA 0 40), (40, oGe 5 1 43)]
theorem B164_2_ok : ∀ q ∈ B164_2, Ok M164 q.1 q.2 := List.forall_mem_cons.mpr ⟨k_164_29, List.forall_mem_cons.mpr ⟨k_164_30, List.forall_mem_cons.mpr ⟨k_164_33, List.forall_mem_cons.mpr ⟨k_164_34, List.forall_mem_cons.mpr ⟨k_164_35, List.forall_mem_cons.mpr ⟨k_164_36, List.forall_mem_cons.mpr ⟨k_164_39, List.forall_mem_cons.mpr ⟨k_164_40, fun _ h => absurd h List.not_mem_nil⟩⟩⟩⟩⟩⟩⟩⟩
def B164_3 : List (Nat × aO) := [(43, oRI)]
theorem B164_3_ok : ∀ q ∈ B164_3, Ok M164 q.1 q.2 := List.forall_mem_cons.mpr ⟨k_164_43, fun _ h => absurd h List.not_mem_nil⟩
def P164 : List (Nat × List (Nat × aO)) := [(14, B164_0), (27, B164_1), (40, B164_2), (43, B164_3)]
theorem P164_ok : ∀ b ∈ P164, ∀ q ∈ b.2, Ok M164 q.1 q.2 := List.forall_mem_cons.mpr ⟨B164_0_ok, List.forall_mem_cons.mpr ⟨B164_1_ok, List.forall_mem_cons.mpr ⟨B164_2_ok, List.forall_mem_cons.mpr ⟨B164_3_ok, fun _ h => absurd h List.not_mem_nil⟩⟩⟩⟩
theorem k_165_0 : Ok M165 0 (oLI 1 1) := r_iload_n (j := 1) (by decide +kernel) rfl
theorem k_165_1 : Ok M165 1 (oTb [52, 52, 52, 59, 64, 71, 78, 85, 92] 103) := r_table (dflt := 102) (hi := 8) (offs := #[51, 51, 51, 58, 63, 70, 77, 84, 91]) (len := 51) (by decide +kernel) (by decide +kernel) (by decide +kernel) (by decide +kernel)
theorem k_165_52 : Ok M165 52 (oLA 0 53) := r_aload_n (j := 0) (by decide +kernel) rfl
theorem k_165_53 : Ok M165 53 (oGe 5 2 56) := r_get (idx := 13) (by decide +kernel) cd_5 2 (by decide) w_680 rfl
theorem k_165_56 : Ok M165 56 (oLI 1 57) := r_iload_n (j := 1) (by decide +kernel) rfl
theorem k_165_57 : Ok M165 57 (oAI 58) := r_iaload (by decide +kernel)
theorem k_165_58 : Ok M165 58 (oRI) := r_ireturn rfl (by decide +kernel)
theorem k_165_59 : Ok M165 59 (oLA 0 60) := r_aload_n (j := 0) (by decide +kernel) rfl
theorem k_165_60 : Ok M165 60 (oGe 5 4 63) := r_get (idx := 58) (by decide +kernel) cd_5 4 (by decide) w_682 rfl
theorem k_165_63 : Ok M165 63 (oRI) := r_ireturn rfl (by decide +kernel)
theorem k_165_64 : Ok M165 64 (oLA 0 65) := r_aload_n (j := 0) (by decide +kernel) rfl
theorem k_165_65 : Ok M165 65 (oGe 5 0 68) := r_get (idx := 7) (by decide +kernel) cd_5 0 (by decide) w_678 rfl
theorem k_165_68 : Ok M165 68 (oS (gKo (.int 0)) 69) := r_iconst (n := 0) (by decide +kernel) (by decide +kernel)
theorem k_165_69 : Ok M165 69 (oAI 70) := r_iaload (by decide +kernel)
theorem k_165_70 : Ok M165 70 (oRI) := r_ireturn rfl (by decide +kernel)
theorem k_165_71 : Ok M165 71 (oLA 0 72) := r_aload_n (j := 0) (by decide +kernel) rfl
theorem k_165_72 : Ok M165 72 (oGe 5 0 75) := r_get (idx := 7) (by decide +kernel) cd_5 0 (by decide) w_678 rfl
theorem k_165_75 : Ok M165 75 (oS (gKo (.int 1)) 76) := r_iconst (n := 1) (by decide +kernel) (by decide +kernel)
theorem k_165_76 : Ok M165 76 (oAI 77) := r_iaload (by decide +kernel)
theorem k_165_77 : Ok M165 77 (oRI) := r_ireturn rfl (by decide +kernel)
theorem k_165_78 : Ok M165 78 (oLA 0 79) := r_aload_n (j := 0) (by decide +kernel) rfl
theorem k_165_79 : Ok M165 79 (oGe 5 0 82) := r_get (idx := 7) (by decide +kernel) cd_5 0 (by decide) w_678 rfl
theorem k_165_82 : Ok M165 82 (oS (gKo (.int 2)) 83) := r_iconst (n := 2) (by decide +kernel) (by decide +kernel)
theorem k_165_83 : Ok M165 83 (oAI 84) := r_iaload (by decide +kernel)
theorem k_165_84 : Ok M165 84 (oRI) := r_ireturn rfl (by decide +kernel)
theorem k_165_85 : Ok M165 85 (oLA 0 86) := r_aload_n (j := 0) (by decide +kernel) rfl
theorem k_165_86 : Ok M165 86 (oGe 5 0 89) := r_get (idx := 7) (by decide +kernel) cd_5 0 (by decide) w_678 rfl
theorem k_165_89 : Ok M165 89 (oS (gKo (.int 4)) 90) := r_iconst (n := 4) (by decide +kernel) (by decide +kernel)
theorem k_165_90 : Ok M165 90 (oAI 91) := r_iaload (by decide +kernel)
theorem k_165_91 : Ok M165 91 (oRI) := r_ireturn rfl (by decide +kernel)
theorem k_165_92 : Ok M165 92 (oLA 0 93) := r_aload_n (j := 0) (by decide +kernel) rfl
theorem k_165_93 : Ok M165 93 (oGe 5 0 96) := r_get (idx := 7) (by decide +kernel) cd_5 0 (by decide) w_678 rfl
theorem k_165_96 : Ok M165 96 (oS (gKo (.int 8)) 98) := r_bipush (n := 8) (by decide +kernel) (by decide +kernel)
theorem k_165_98 : Ok M165 98 (oAI 99) := r_iaload (by decide +kernel)
theorem k_165_99 : Ok M165 99 (oCS 98 1) := r_callS (idx := 213) (by decide +kernel) w_967 cs_98
theorem k_165_102 : Ok M165 102 (oRI) := r_ireturn rfl (by decide +kernel)
theorem k_165_103 : Ok M165 103 (oLA 0 104) := r_aload_n (j := 0) (by decide +kernel) rfl
theorem k_165_104 : Ok M165 104 (oGe 5 1 107) := r_get (idx := 40) (by decide +kernel) cd_5 1 (by decide) w_679 rfl
theorem k_165_107 : Ok M165 107 (oRI) := r_ireturn rfl (by decide +kernel)
def B165_0 : List (Nat × aO) := [(0, oLI 1 1), (1, oTb [52, 52, 52, 59, 64, 71, 78, 85, 92] 103), (52, oLA 0 53), (53, oGe 5 2 56), (56, oLI 1 57), (57, oAI 58), (58, oRI), (59, oLA 0 60)]
theorem B165_0_ok : ∀ q ∈ B165_0, Ok M165 q.1 q.2 := List.forall_mem_cons.mpr ⟨k_165_0, List.forall_mem_cons.mpr ⟨k_165_1, List.forall_mem_cons.mpr ⟨k_165_52, List.forall_mem_cons.mpr ⟨k_165_53, List.forall_mem_cons.mpr ⟨k_165_56, List.forall_mem_cons.mpr ⟨k_165_57, List.forall_mem_cons.mpr ⟨k_165_58, List.forall_mem_cons.mpr ⟨k_165_59, fun _ h => absurd h List.not_mem_nil⟩⟩⟩⟩⟩⟩⟩⟩
def B165_1 : List (Nat × aO) := [(60, oGe 5 4 63), (63, oRI), (64, oLA 0 65), (65, oGe 5 0 68), (68, oS (gKo (.int 0)) 69), (69, oAI 70), (70, oRI), (71, oLA 0 72)]
theorem B165_1_ok : ∀ q ∈ B165_1, Ok M165 q.1 q.2 := List.forall_mem_cons.mpr ⟨k_165_60, List.forall_mem_cons.mpr ⟨k_165_63, List.forall_mem_cons.mpr ⟨k_165_64, List.forall_mem_cons.mpr ⟨k_165_65, List.forall_mem_cons.mpr ⟨k_165_68, List.forall_mem_cons.mpr ⟨k_165_69, List.forall_mem_cons.mpr ⟨k_165_70, List.forall_mem_cons.mpr ⟨k_165_71, fun _ h => absurd h List.not_mem_nil⟩⟩⟩⟩⟩⟩⟩⟩
def B165_2 : List (Nat × aO) := [(72, oGe 5 0 75), (75, oS (gKo (.int 1)) 76), (76, oAI 77), (77, oRI), (78, oLA 0 79), (79, oGe 5 0 82), (82, oS (gKo (.int 2)) 83), (83, oAI 84)]
theorem B165_2_ok : ∀ q ∈ B165_2, Ok M165 q.1 q.2 := List.forall_mem_cons.mpr ⟨k_165_72, List.forall_mem_cons.mpr ⟨k_165_75, List.forall_mem_cons.mpr ⟨k_165_76, List.forall_mem_cons.mpr ⟨k_165_77, List.forall_mem_cons.mpr ⟨k_165_78, List.forall_mem_cons.mpr ⟨k_165_79, List.forall_mem_cons.mpr ⟨k_165_82, List.forall_mem_cons.mpr ⟨k_165_83, fun _ h => absurd h List.not_mem_nil⟩⟩⟩⟩⟩⟩⟩⟩
def B165_3 : List (Nat × aO) := [(84, oRI), (85, oLA 0 86), (86, oGe 5 0 89), (89, oS (gKo (.int 4)) 90), (90, oAI 91), (91, oRI), (92, oLA 0 93), (93, oGe 5 0 96)]
theorem B165_3_ok : ∀ q ∈ B165_3, Ok M165 q.1 q.2 := List.forall_mem_cons.mpr ⟨k_165_84, List.forall_mem_cons.mpr ⟨k_165_85, List.forall_mem_cons.mpr ⟨k_165_86, List.forall_mem_cons.mpr ⟨k_165_89, List.forall_mem_cons.mpr ⟨k_165_90, List.forall_mem_cons.mpr ⟨k_165_91, List.forall_mem_cons.mpr ⟨k_165_92, List.forall_mem_cons.mpr ⟨k_165_93, fun _ h => absurd h List.not_mem_nil⟩⟩⟩⟩⟩⟩⟩⟩
def B165_4 : List (Nat × aO) := [(96, oS (gKo (.int 8)) 98), (98, oAI 99), (99, oCS 98 1), (102, oRI), (103, oLA 0 104), (104, oGe 5 1 107), (107, oRI)]
theorem B165_4_ok : ∀ q ∈ B165_4, Ok M165 q.1 q.2 := List.forall_mem_cons.mpr ⟨k_165_96, List.forall_mem_cons.mpr ⟨k_165_98, List.forall_mem_cons.mpr ⟨k_165_99, List.forall_mem_cons.mpr ⟨k_165_102, List.forall_mem_cons.mpr ⟨k_165_103, List.forall_mem_cons.mpr ⟨k_165_104, List.forall_mem_cons.mpr ⟨k_165_107, fun _ h => absurd h List.not_mem_nil⟩⟩⟩⟩⟩⟩⟩
def P165 : List (Nat × List (Nat × aO)) := [(59, B165_0), (71, B165_1), (83, B165_2), (93, B165_3), (107, B165_4)]
theorem P165_ok : ∀ b ∈ P165, ∀ q ∈ b.2, Ok M165 q.1 q.2 := List.forall_mem_cons.mpr ⟨B165_0_ok, List.forall_mem_cons.mpr ⟨B165_1_ok, List.forall_mem_cons.mpr ⟨B165_2_ok, List.forall_mem_cons.mpr ⟨B165_3_ok, List.forall_mem_cons.mpr ⟨B165_4_ok, fun _ h => absurd h List.not_mem_nil⟩⟩⟩⟩⟩
theorem k_166_0 : Ok M166 0 (oLI 1 1) := r_iload_n (j := 1) (by decide +kernel) rfl
theorem k_166_1 : Ok M166 1 (oS gIL 2) := r_i2l (by decide +kernel)
theorem k_166_2 : Ok M166 2 (oS (gKo (.long 0)) 3) := r_lconst (n := 0) (by decide +kernel) (by decide +kernel)
theorem k_166_3 : Ok M166 3 (oK (.long 9) 6) := r_ldc2 (i := 244) (by decide +kernel) w_1026
theorem k_166_6 : Ok M166 6 (oCS 96 3) := r_callS (idx := 48) (by decide +kernel) w_744 cs_96
theorem k_166_9 : Ok M166 9 (oB1 b_if_eq q_eq 20 12) := r_if_eq (off := 11) (by decide +kernel) (by decide +kernel)
theorem k_166_12 : Ok M166 12 (oLA 0 13) := r_aload_n (j := 0) (by decide +kernel) rfl
theorem k_166_13 : Ok M166 13 (oLI 1 14) := r_iload_n (j := 1) (by decide +kernel) rfl
theorem k_166_14 : Ok M166 14 (oCV 5 165 1) := r_callV (idx := 246) (by decide +kernel) w_1027 cv_165
theorem k_166_17 : Ok M166 17 (oGo 26) := r_goto (off := 9) (by decide +kernel) (by decide +kernel)
theorem k_166_20 : Ok M166 20 (oLA 0 21) := r_aload_n (j := 0) (by decide +kernel) rfl
theorem k_166_21 : Ok M166 21 (oS (gKo (.int (-2))) 23) := r_bipush (n := (-2)) (by decide +kernel) (by decide +kernel)
theorem k_166_23 : Ok M166 23 (oCV 5 99 1) := r_callV (idx := 54) (by decide +kernel) w_747 cv_99
theorem k_166_26 : Ok M166 26 (oRI) := r_ireturn rfl (by decide +kernel)
def B166_0 : List (Nat × aO) := [(0, oLI 1 1), (1, oS gIL 2), (2, oS (gKo (.long 0)) 3), (3, oK (.long 9) 6), (6, oCS 96 3), (9, oB1 b_if_eq q_eq 20 12), (12, oLA 0 13), (13, oLI 1 14)]
theorem B166_0_ok : ∀ q ∈ B166_0, Ok M166 q.1 q.2 := List.forall_mem_cons.mpr ⟨k_166_0, List.forall_mem_cons.mpr ⟨k_166_1, List.forall_mem_cons.mpr ⟨k_166_2, List.forall_mem_cons.mpr ⟨k_166_3, List.forall_mem_cons.mpr ⟨k_166_6, List.forall_mem_cons.mpr ⟨k_166_9, List.forall_mem_cons.mpr ⟨k_166_12, List.forall_mem_cons.mpr ⟨k_166_13, fun _ h => absurd h List.not_mem_nil⟩⟩⟩⟩⟩⟩⟩⟩
def B166_1 : List (Nat × aO) := [(14, oCV 5 165 1), (17, oGo 26), (20, oLA 0 21), (21, oS (gKo (.int (-2))) 23), (23, oCV 5 99 1), (26, oRI)]
theorem B166_1_ok : ∀ q ∈ B166_1, Ok M166 q.1 q.2 := List.forall_mem_cons.mpr ⟨k_166_14, List.forall_mem_cons.mpr ⟨k_166_17, List.forall_mem_cons.mpr ⟨k_166_20, List.forall_mem_cons.mpr ⟨k_166_21, List.forall_mem_cons.mpr ⟨k_166_23, List.forall_mem_cons.mpr ⟨k_166_26, fun _ h => absurd h List.not_mem_nil⟩⟩⟩⟩⟩⟩
def P166 : List (Nat × List (Nat × aO)) := [(13, B166_0), (26, B166_1)]
theorem P166_ok : ∀ b ∈ P166, ∀ q ∈ b.2, Ok M166 q.1 q.2 := List.forall_mem_cons.mpr ⟨B166_0_ok, List.forall_mem_cons.mpr ⟨B166_1_ok, fun _ h => absurd h List.not_mem_nil⟩⟩
