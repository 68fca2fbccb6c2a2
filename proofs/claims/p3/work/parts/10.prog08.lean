theorem k_142_0 : Ok M142 0 (oS (gKo (.int 0)) 1) := r_iconst (n := 0) (by decide +kernel) (by decide +kernel)
theorem k_142_1 : Ok M142 1 (oSI 1 3 2) := r_istore_n (j := 1) (by decide +kernel) rfl
theorem k_142_2 : Ok M142 2 (oS (gKo (.int 0)) 3) := r_iconst (n := 0) (by decide +kernel) (by decide +kernel)
theorem k_142_3 : Ok M142 3 (oSI 2 3 4) := r_istore_n (j := 2) (by decide +kernel) rfl
theorem k_142_4 : Ok M142 4 (oLI 2 5) := r_iload_n (j := 2) (by decide +kernel) rfl
theorem k_142_5 : Ok M142 5 (oLA 0 6) := r_aload_n (j := 0) (by decide +kernel) rfl
theorem k_142_6 : Ok M142 6 (oGe 5 0 9) := r_get (idx := 7) (by decide +kernel) cd_5 0 (by decide) w_678 rfl
theorem k_142_9 : Ok M142 9 (oS (gKo (.int 0)) 10) := r_iconst (n := 0) (by decide +kernel) (by decide +kernel)
theorem k_142_10 : Ok M142 10 (oAI 11) := r_iaload (by decide +kernel)
theorem k_142_11 : Ok M142 11 (oB2 b_icmp_ge q_ge 43 14) := r_icmp_ge (off := 32) (by decide +kernel) (by decide +kernel)
theorem k_142_14 : Ok M142 14 (oLI 1 15) := r_iload_n (j := 1) (by decide +kernel) rfl
theorem k_142_15 : Ok M142 15 (oLA 0 16) := r_aload_n (j := 0) (by decide +kernel) rfl
theorem k_142_16 : Ok M142 16 (oGe 5 0 19) := r_get (idx := 7) (by decide +kernel) cd_5 0 (by decide) w_678 rfl
theorem k_142_19 : Ok M142 19 (oS (gKo (.int 15)) 21) := r_bipush (n := 15) (by decide +kernel) (by decide +kernel)
theorem k_142_21 : Ok M142 21 (oLI 2 22) := r_iload_n (j := 2) (by decide +kernel) rfl
theorem k_142_22 : Ok M142 22 (oS (gI2 f_iadd) 23) := r_iadd (by decide +kernel)
theorem k_142_23 : Ok M142 23 (oAI 24) := r_iaload (by decide +kernel)
theorem k_142_24 : Ok M142 24 (oS (gKo (.int (-1))) 25) := r_iconst (n := (-1)) (by decide +kernel) (by decide +kernel)
theorem k_142_25 : Ok M142 25 (oB2 b_icmp_ne q_ne 34 28) := r_icmp_ne (off := 9) (by decide +kernel) (by decide +kernel)
theorem k_142_28 : Ok M142 28 (oS (gKo (.int 1)) 29) := r_iconst (n := 1) (by decide +kernel) (by decide +kernel)
theorem k_142_29 : Ok M142 29 (oLI 2 30) := r_iload_n (j := 2) (by decide +kernel) rfl
theorem k_142_30 : Ok M142 30 (oS (gI2 f_ishl) 31) := r_ishl (by decide +kernel)
theorem k_142_31 : Ok M142 31 (oGo 35) := r_goto (off := 4) (by decide +kernel) (by decide +kernel)
theorem k_142_34 : Ok M142 34 (oS (gKo (.int 0)) 35) := r_iconst (n := 0) (by decide +kernel) (by decide +kernel)
theorem k_142_35 : Ok M142 35 (oS (gI2 f_ior) 36) := r_ior (by decide +kernel)
theorem k_142_36 : Ok M142 36 (oSI 1 3 37) := r_istore_n (j := 1) (by decide +kernel) rfl
theorem k_142_37 : Ok M142 37 (oInc 2 1 3 40) := r_iinc (n := 1) (by decide +kernel) (by decide +kernel)
theorem k_142_40 : Ok M142 40 (oGo 4) := r_goto (off := (-36)) (by decide +kernel) (by decide +kernel)
theorem k_142_43 : Ok M142 43 (oLI 1 44) := r_iload_n (j := 1) (by decide +kernel) rfl
theorem k_142_44 : Ok M142 44 (oRI) := r_ireturn rfl (by decide +kernel)
def B142_0 : List (Nat × aO) := [(0, oS (gKo (.int 0)) 1), (1, oSI 1 3 2), (2, oS (gKo (.int 0)) 3), (3, oSI 2 3 4), (4, oLI 2 5), (5, oLA 0 6), (6, oGe 5 0 9), (9, oS (gKo (.int 0)) 10)]
theorem B142_0_ok : ∀ q ∈ B142_0, Ok M142 q.1 q.2 := List.forall_mem_cons.mpr ⟨k_142_0, List.forall_mem_cons.mpr ⟨k_142_1, List.forall_mem_cons.mpr ⟨k_142_2, List.forall_mem_cons.mpr ⟨k_142_3, List.forall_mem_cons.mpr ⟨k_142_4, List.forall_mem_cons.mpr ⟨k_142_5, List.forall_mem_cons.mpr ⟨k_142_6, List.forall_mem_cons.mpr ⟨k_142_9, fun _ h => absurd h List.not_mem_nil⟩⟩⟩⟩⟩⟩⟩⟩
def B142_1 : List (Nat × aO) := [(10, oAI 11), (11, oB2 b_icmp_ge q_ge 43 14), (14, oLI 1 15), (15, oLA 0 16), (16, oGe 5 0 19), (19, oS (gKo (.int 15)) 21), (21, oLI 2 22), (22, oS (gI2 f_iadd) 23)]
theorem B142_1_ok : ∀ q ∈ B142_1, Ok M142 q.1 q.2 := List.forall_mem_cons.mpr ⟨k_142_10, List.forall_mem_cons.mpr ⟨k_142_11, List.forall_mem_cons.mpr ⟨k_142_14, List.forall_mem_cons.mpr ⟨k_142_15, List.forall_mem_cons.mpr ⟨k_142_16, List.forall_mem_cons.mpr ⟨k_142_19, List.forall_mem_cons.mpr ⟨k_142_21, List.forall_mem_cons.mpr ⟨k_142_22, fun _ h => absurd h List.not_mem_nil⟩⟩⟩⟩⟩⟩⟩⟩
def B142_2 : List (Nat × aO) := [(23, oAI 24), (24, oS (gKo (.int (-1))) 25), (25, oB2 b_icmp_ne q_ne 34 28), (28, oS (gKo (.int 1)) 29), (29, oLI 2 30), (30, oS (gI2 f_ishl) 31), (31, oGo 35), (34, oS (gKo (.int 0)) 35)]
theorem B142_2_ok : ∀ q ∈ B142_2, Ok M142 q.1 q.2 := List.forall_mem_cons.mpr ⟨k_142_23, List.forall_mem_cons.mpr ⟨k_142_24, List.forall_mem_cons.mpr ⟨k_142_25, List.forall_mem_cons.mpr ⟨k_142_28, List.forall_mem_cons.mpr ⟨k_142_29, List.forall_mem_cons.mpr ⟨k_142_30, List.forall_mem_cons.mpr ⟨k_142_31, List.forall_mem_cons.mpr ⟨k_142_34, fun _ h => absurd h List.not_mem_nil⟩⟩⟩⟩⟩⟩⟩⟩
def B142_3 : List (Nat × aO) := [(35, oS (gI2 f_ior) 36), (36, oSI 1 3 37), (37, oInc 2 1 3 40), (40, oGo 4), (43, oLI 1 44), (44, oRI)]
theorem B142_3_ok : ∀ q ∈ B142_3, Ok M142 q.1 q.2 := List.forall_mem_cons.mpr ⟨k_142_35, List.forall_mem_cons.mpr ⟨k_142_36, List.forall_mem_cons.mpr ⟨k_142_37, List.forall_mem_cons.mpr ⟨k_142_40, List.forall_mem_cons.mpr ⟨k_142_43, List.forall_mem_cons.mpr ⟨k_142_44, fun _ h => absurd h List.not_mem_nil⟩⟩⟩⟩⟩⟩
def P142 : List (Nat × List (Nat × aO)) := [(9, B142_0), (22, B142_1), (34, B142_2), (44, B142_3)]
theorem P142_ok : ∀ b ∈ P142, ∀ q ∈ b.2, Ok M142 q.1 q.2 := List.forall_mem_cons.mpr ⟨B142_0_ok, List.forall_mem_cons.mpr ⟨B142_1_ok, List.forall_mem_cons.mpr ⟨B142_2_ok, List.forall_mem_cons.mpr ⟨B142_3_ok, fun _ h => absurd h List.not_mem_nil⟩⟩⟩⟩
theorem k_143_0 : Ok M143 0 (oLA 0 1) := r_aload_n (j := 0) (by decide +kernel) rfl
theorem k_143_1 : Ok M143 1 (oLA 0 2) := r_aload_n (j := 0) (by decide +kernel) rfl
theorem k_143_2 : Ok M143 2 (oGe 5 0 5) := r_get (idx := 7) (by decide +kernel) cd_5 0 (by decide) w_678 rfl
theorem k_143_5 : Ok M143 5 (oS (gKo (.int 4)) 6) := r_iconst (n := 4) (by decide +kernel) (by decide +kernel)
theorem k_143_6 : Ok M143 6 (oAI 7) := r_iaload (by decide +kernel)
theorem k_143_7 : Ok M143 7 (oCV 5 126 1) := r_callV (idx := 152) (by decide +kernel) w_836 cv_126
theorem k_143_10 : Ok M143 10 (oS (gKo (.int (-1))) 11) := r_iconst (n := (-1)) (by decide +kernel) (by decide +kernel)
theorem k_143_11 : Ok M143 11 (oB2 b_icmp_eq q_eq 38 14) := r_icmp_eq (off := 27) (by decide +kernel) (by decide +kernel)
theorem k_143_14 : Ok M143 14 (oLA 0 15) := r_aload_n (j := 0) (by decide +kernel) rfl
theorem k_143_15 : Ok M143 15 (oCV 5 142 0) := r_callV (idx := 191) (by decide +kernel) w_935 cv_142
theorem k_143_18 : Ok M143 18 (oLA 0 19) := r_aload_n (j := 0) (by decide +kernel) rfl
theorem k_143_19 : Ok M143 19 (oGe 5 0 22) := r_get (idx := 7) (by decide +kernel) cd_5 0 (by decide) w_678 rfl
theorem k_143_22 : Ok M143 22 (oS (gKo (.int 3)) 23) := r_iconst (n := 3) (by decide +kernel) (by decide +kernel)
theorem k_143_23 : Ok M143 23 (oAI 24) := r_iaload (by decide +kernel)
theorem k_143_24 : Ok M143 24 (oS (gKo (.int (-1))) 25) := r_iconst (n := (-1)) (by decide +kernel) (by decide +kernel)
theorem k_143_25 : Ok M143 25 (oS (gI2 f_ixor) 26) := r_ixor (by decide +kernel)
theorem k_143_26 : Ok M143 26 (oS (gI2 f_iand) 27) := r_iand (by decide +kernel)
theorem k_143_27 : Ok M143 27 (oLI 1 28) := r_iload_n (j := 1) (by decide +kernel) rfl
theorem k_143_28 : Ok M143 28 (oCS 97 2) := r_callS (idx := 92) (by decide +kernel) w_799 cs_97
theorem k_143_31 : Ok M143 31 (oB1 b_if_eq q_eq 38 34) := r_if_eq (off := 7) (by decide +kernel) (by decide +kernel)
theorem k_143_34 : Ok M143 34 (oS (gKo (.int 1)) 35) := r_iconst (n := 1) (by decide +kernel) (by decide +kernel)
theorem k_143_35 : Ok M143 35 (oGo 39) := r_goto (off := 4) (by decide +kernel) (by decide +kernel)
theorem k_143_38 : Ok M143 38 (oS (gKo (.int 0)) 39) := r_iconst (n := 0) (by decide +kernel) (by decide +kernel)
theorem k_143_39 : Ok M143 39 (oRZ) := r_zreturn rfl (by decide +kernel)
def B143_0 : List (Nat × aO) := [(0, oLA 0 1), (1, oLA 0 2), (2, oGe 5 0 5), (5, oS (gKo (.int 4)) 6), (6, oAI 7), (7, oCV 5 126 1), (10, oS (gKo (.int (-1))) 11), (11, oB2 b_icmp_eq q_eq 38 14)]
theorem B143_0_ok : ∀ q ∈ B143_0, Ok M143 q.1 q.2 := List.forall_mem_cons.mpr ⟨k_143_0, List.forall_mem_cons.mpr ⟨k_143_1, List.forall_mem_cons.mpr ⟨k_143_2, List.forall_mem_cons.mpr ⟨k_143_5, List.forall_mem_cons.mpr ⟨k_143_6, List.forall_mem_cons.mpr ⟨k_143_7, List.forall_mem_cons.mpr ⟨k_143_10, List.forall_mem_cons.mpr ⟨k_143_11, fun _ h => absurd h List.not_mem_nil⟩⟩⟩⟩⟩⟩⟩⟩
def B143_1 : List (Nat × aO) := [(14, oLA 0 15), (15, oCV 5 142 0), (18, oLA 0 19), (19, oGe 5 0 22), (22, oS (gKo (.int 3)) 23), (23, oAI 24), (24, oS (gKo (.int (-1))) 25), (25, oS (gI2 f_ixor) 26)]
theorem B143_1_ok : ∀ q ∈ B143_1, Ok M143 q.1 q.2 := List.forall_mem_cons.mpr ⟨k_143_14, List.forall_mem_cons.mpr ⟨k_143_15, List.forall_mem_cons.mpr ⟨k_143_18, List.forall_mem_cons.mpr ⟨k_143_19, List.forall_mem_cons.mpr ⟨k_143_22, List.forall_mem_cons.mpr ⟨k_143_23, List.forall_mem_cons.mpr ⟨k_143_24, List.forall_mem_cons.mpr ⟨k_143_25, fun _ h => absurd h List.not_mem_nil⟩⟩⟩⟩⟩⟩⟩⟩
def B143_2 : List (Nat × aO) := [(26, oS (gI2 f_iand) 27), (27, oLI 1 28), (28, oCS 97 2), (31, oB1 b_if_eq q_eq 38 34), (34, oS (gKo (.int 1)) 35), (35, oGo 39), (38, oS (gKo (.int 0)) 39), (39, oRZ)]
theorem B143_2_ok : ∀ q ∈ B143_2, Ok M143 q.1 q.2 := List.forall_mem_cons.mpr ⟨k_143_26, List.forall_mem_cons.mpr ⟨k_143_27, List.forall_mem_cons.mpr ⟨k_143_28, List.forall_mem_cons.mpr ⟨k_143_31, List.forall_mem_cons.mpr ⟨k_143_34, List.forall_mem_cons.mpr ⟨k_143_35, List.forall_mem_cons.mpr ⟨k_143_38, List.forall_mem_cons.mpr ⟨k_143_39, fun _ h => absurd h List.not_mem_nil⟩⟩⟩⟩⟩⟩⟩⟩
def P143 : List (Nat × List (Nat × aO)) := [(11, B143_0), (25, B143_1), (39, B143_2)]
theorem P143_ok : ∀ b ∈ P143, ∀ q ∈ b.2, Ok M143 q.1 q.2 := List.forall_mem_cons.mpr ⟨B143_0_ok, List.forall_mem_cons.mpr ⟨B143_1_ok, List.forall_mem_cons.mpr ⟨B143_2_ok, fun _ h => absurd h List.not_mem_nil⟩⟩⟩
theorem k_144_0 : Ok M144 0 (oLA 0 1) := r_aload_n (j := 0) (by decide +kernel) rfl
theorem k_144_1 : Ok M144 1 (oLI 1 2) := r_iload_n (j := 1) (by decide +kernel) rfl
theorem k_144_2 : Ok M144 2 (oCV 5 102 1) := r_callV (idx := 159) (by decide +kernel) w_860 cv_102
theorem k_144_5 : Ok M144 5 (oB1 b_if_ne q_ne 15 8) := r_if_ne (off := 10) (by decide +kernel) (by decide +kernel)
theorem k_144_8 : Ok M144 8 (oLA 0 9) := r_aload_n (j := 0) (by decide +kernel) rfl
theorem k_144_9 : Ok M144 9 (oS (gKo (.int (-2))) 11) := r_bipush (n := (-2)) (by decide +kernel) (by decide +kernel)
theorem k_144_11 : Ok M144 11 (oCV 5 99 1) := r_callV (idx := 54) (by decide +kernel) w_747 cv_99
theorem k_144_14 : Ok M144 14 (oRI) := r_ireturn rfl (by decide +kernel)
theorem k_144_15 : Ok M144 15 (oLA 0 16) := r_aload_n (j := 0) (by decide +kernel) rfl
theorem k_144_16 : Ok M144 16 (oLI 1 17) := r_iload_n (j := 1) (by decide +kernel) rfl
theorem k_144_17 : Ok M144 17 (oCV 5 143 1) := r_callV (idx := 194) (by decide +kernel) w_931 cv_143
theorem k_144_20 : Ok M144 20 (oB1 b_if_ne q_ne 30 23) := r_if_ne (off := 10) (by decide +kernel) (by decide +kernel)
theorem k_144_23 : Ok M144 23 (oLA 0 24) := r_aload_n (j := 0) (by decide +kernel) rfl
theorem k_144_24 : Ok M144 24 (oS (gKo (.int (-3))) 26) := r_bipush (n := (-3)) (by decide +kernel) (by decide +kernel)
theorem k_144_26 : Ok M144 26 (oCV 5 99 1) := r_callV (idx := 54) (by decide +kernel) w_747 cv_99
theorem k_144_29 : Ok M144 29 (oRI) := r_ireturn rfl (by decide +kernel)
theorem k_144_30 : Ok M144 30 (oLA 0 31) := r_aload_n (j := 0) (by decide +kernel) rfl
theorem k_144_31 : Ok M144 31 (oCV 5 101 0) := r_callV (idx := 135) (by decide +kernel) w_823 cv_101
theorem k_144_34 : Ok M144 34 (oLA 0 35) := r_aload_n (j := 0) (by decide +kernel) rfl
theorem k_144_35 : Ok M144 35 (oLA 0 36) := r_aload_n (j := 0) (by decide +kernel) rfl
theorem k_144_36 : Ok M144 36 (oGe 5 0 39) := r_get (idx := 7) (by decide +kernel) cd_5 0 (by decide) w_678 rfl
theorem k_144_39 : Ok M144 39 (oS (gKo (.int 4)) 40) := r_iconst (n := 4) (by decide +kernel) (by decide +kernel)
theorem k_144_40 : Ok M144 40 (oAI 41) := r_iaload (by decide +kernel)
theorem k_144_41 : Ok M144 41 (oCV 5 126 1) := r_callV (idx := 152) (by decide +kernel) w_836 cv_126
theorem k_144_44 : Ok M144 44 (oSI 2 3 45) := r_istore_n (j := 2) (by decide +kernel) rfl
theorem k_144_45 : Ok M144 45 (oLA 0 46) := r_aload_n (j := 0) (by decide +kernel) rfl
theorem k_144_46 : Ok M144 46 (oGe 5 0 49) := r_get (idx := 7) (by decide +kernel) cd_5 0 (by decide) w_678 rfl
theorem k_144_49 : Ok M144 49 (oS (gKo (.int 15)) 51) := r_bipush (n := 15) (by decide +kernel) (by decide +kernel)
theorem k_144_51 : Ok M144 51 (oLI 1 52) := r_iload_n (j := 1) (by decide +kernel) rfl
theorem k_144_52 : Ok M144 52 (oS (gI2 f_iadd) 53) := r_iadd (by decide +kernel)
theorem k_144_53 : Ok M144 53 (oLI 2 54) := r_iload_n (j := 2) (by decide +kernel) rfl
theorem k_144_54 : Ok M144 54 (oAT 55) := r_iastore (by decide +kernel)
theorem k_144_55 : Ok M144 55 (oLA 0 56) := r_aload_n (j := 0) (by decide +kernel) rfl
theorem k_144_56 : Ok M144 56 (oGe 5 0 59) := r_get (idx := 7) (by decide +kernel) cd_5 0 (by decide) w_678 rfl
theorem k_144_59 : Ok M144 59 (oS (gKo (.int 21)) 61) := r_bipush (n := 21) (by decide +kernel) (by decide +kernel)
theorem k_144_61 : Ok M144 61 (oLI 1 62) := r_iload_n (j := 1) (by decide +kernel) rfl
theorem k_144_62 : Ok M144 62 (oS (gI2 f_iadd) 63) := r_iadd (by decide +kernel)
theorem k_144_63 : Ok M144 63 (oLA 0 64) := r_aload_n (j := 0) (by decide +kernel) rfl
theorem k_144_64 : Ok M144 64 (oGe 5 0 67) := r_get (idx := 7) (by decide +kernel) cd_5 0 (by decide) w_678 rfl
theorem k_144_67 : Ok M144 67 (oS (gKo (.int 4)) 68) := r_iconst (n := 4) (by decide +kernel) (by decide +kernel)
theorem k_144_68 : Ok M144 68 (oAI 69) := r_iaload (by decide +kernel)
theorem k_144_69 : Ok M144 69 (oAT 70) := r_iastore (by decide +kernel)
theorem k_144_70 : Ok M144 70 (oLA 0 71) := r_aload_n (j := 0) (by decide +kernel) rfl
theorem k_144_71 : Ok M144 71 (oGe 5 0 74) := r_get (idx := 7) (by decide +kernel) cd_5 0 (by decide) w_678 rfl
theorem k_144_74 : Ok M144 74 (oS (gKo (.int 4)) 75) := r_iconst (n := 4) (by decide +kernel) (by decide +kernel)
theorem k_144_75 : Ok M144 75 (oS gD2 76) := r_dup2 (by decide +kernel)
theorem k_144_76 : Ok M144 76 (oAI 77) := r_iaload (by decide +kernel)
theorem k_144_77 : Ok M144 77 (oS (gKo (.int 1)) 78) := r_iconst (n := 1) (by decide +kernel) (by decide +kernel)
theorem k_144_78 : Ok M144 78 (oS (gI2 f_iadd) 79) := r_iadd (by decide +kernel)
theorem k_144_79 : Ok M144 79 (oAT 80) := r_iastore (by decide +kernel)
theorem k_144_80 : Ok M144 80 (oLA 0 81) := r_aload_n (j := 0) (by decide +kernel) rfl
theorem k_144_81 : Ok M144 81 (oGe 5 0 84) := r_get (idx := 7) (by decide +kernel) cd_5 0 (by decide) w_678 rfl
theorem k_144_84 : Ok M144 84 (oS (gKo (.int 5)) 85) := r_iconst (n := 5) (by decide +kernel) (by decide +kernel)
theorem k_144_85 : Ok M144 85 (oLI 1 86) := r_iload_n (j := 1) (by decide +kernel) rfl
theorem k_144_86 : Ok M144 86 (oAT 87) := r_iastore (by decide +kernel)
theorem k_144_87 : Ok M144 87 (oLA 0 88) := r_aload_n (j := 0) (by decide +kernel) rfl
theorem k_144_88 : Ok M144 88 (oGe 5 0 91) := r_get (idx := 7) (by decide +kernel) cd_5 0 (by decide) w_678 rfl
theorem k_144_91 : Ok M144 91 (oS (gKo (.int 6)) 93) := r_bipush (n := 6) (by decide +kernel) (by decide +kernel)
theorem k_144_93 : Ok M144 93 (oLA 0 94) := r_aload_n (j := 0) (by decide +kernel) rfl
theorem k_144_94 : Ok M144 94 (oGe 5 0 97) := r_get (idx := 7) (by decide +kernel) cd_5 0 (by decide) w_678 rfl
theorem k_144_97 : Ok M144 97 (oS (gKo (.int 3)) 98) := r_iconst (n := 3) (by decide +kernel) (by decide +kernel)
theorem k_144_98 : Ok M144 98 (oAI 99) := r_iaload (by decide +kernel)
theorem k_144_99 : Ok M144 99 (oAT 100) := r_iastore (by decide +kernel)
theorem k_144_100 : Ok M144 100 (oLA 0 101) := r_aload_n (j := 0) (by decide +kernel) rfl
theorem k_144_101 : Ok M144 101 (oGe 5 0 104) := r_get (idx := 7) (by decide +kernel) cd_5 0 (by decide) w_678 rfl
theorem k_144_104 : Ok M144 104 (oS (gKo (.int 3)) 105) := r_iconst (n := 3) (by decide +kernel) (by decide +kernel)
theorem k_144_105 : Ok M144 105 (oS (gKo (.int 0)) 106) := r_iconst (n := 0) (by decide +kernel) (by decide +kernel)
theorem k_144_106 : Ok M144 106 (oAT 107) := r_iastore (by decide +kernel)
theorem k_144_107 : Ok M144 107 (oLI 2 108) := r_iload_n (j := 2) (by decide +kernel) rfl
theorem k_144_108 : Ok M144 108 (oRI) := r_ireturn rfl (by decide +kernel)
def B144_0 : List (Nat × aO) := [(0, oLA 0 1), (1, oLI 1 2), (2, oCV 5 102 1), (5, oB1 b_if_ne q_ne 15 8), (8, oLA 0 9), (9, oS (gKo (.int (-2))) 11), (11, oCV 5 99 1), (14, oRI)]
theorem B144_0_ok : ∀ q ∈ B144_0, Ok M144 q.1 q.2 := List.forall_mem_cons.mpr ⟨k_144_0, List.forall_mem_cons.mpr ⟨k_144_1, List.forall_mem_cons.mpr ⟨k_144_2, List.forall_mem_cons.mpr ⟨k_144_5, List.forall_mem_cons.mpr ⟨k_144_8, List.forall_mem_cons.mpr ⟨k_144_9, List.forall_mem_cons.mpr ⟨k_144_11, List.forall_mem_cons.mpr ⟨k_144_14, fun _ h => absurd h List.not_mem_nil⟩⟩⟩⟩⟩⟩⟩⟩
def B144_1 : List (Nat × aO) := [(15, oLA 0 16), (16, oLI 1 17), (17, oCV 5 143 1), (20, oB1 b_if_ne q_ne 30 23), (23, oLA 0 24), (24, oS (gKo (.int (-3))) 26), (26, oCV 5 99 1), (29, oRI)]
theorem B144_1_ok : ∀ q ∈ B144_1, Ok M144 q.1 q.2 := List.forall_mem_cons.mpr ⟨k_144_15, List.forall_mem_cons.mpr ⟨k_144_16, List.forall_mem_cons.mpr ⟨k_144_17, List.forall_mem_cons.mpr ⟨k_144_20, List.forall_mem_cons.mpr ⟨k_144_23, List.forall_mem_cons.mpr ⟨k_144_24, List.forall_mem_cons.mpr ⟨k_144_26, List.forall_mem_cons.mpr ⟨k_144_29, fun _ h => absurd h List.not_mem_nil⟩⟩⟩⟩⟩⟩⟩⟩
def B144_2 : List (Nat × aO) := [(30, oLA 0 31), (31, oCV 5 101 0), (34, oLA 0 35), (35, oLA 0 36), (36, oGe 5 0 39), (39, oS (gKo (.int 4)) 40), (40, oAI 41), (41, oCV 5 126 1)]
theorem B144_2_ok : ∀ q ∈ B144_2, Ok M144 q.1 q.2 := List.forall_mem_cons.mpr ⟨k_144_30, List.forall_mem_cons.mpr ⟨k_144_31, List.forall_mem_cons.mpr ⟨k_144_34, List.forall_mem_cons.mpr ⟨k_144_35, List.forall_mem_cons.mpr ⟨k_144_36, List.forall_mem_cons.mpr ⟨k_144_39, List.forall_mem_cons.mpr ⟨k_144_40, List.forall_mem_cons.mpr ⟨k_144_41, fun _ h => absurd h List.not_mem_nil⟩⟩⟩⟩⟩⟩⟩⟩
def B144_3 : List (Nat × aO) := [(44, oSI 2 3 45), (45, oLA 0 46), (46, oGe 5 0 49), (49, oS (gKo (.int 15)) 51), (51, oLI 1 52), (52, oS (gI2 f_iadd) 53), (53, oLI 2 54), (54, oAT 55)]
theorem B144_3_ok : ∀ q ∈ B144_3, Ok M144 q.1 q.2 := List.forall_mem_cons.mpr ⟨k_144_44, List.forall_mem_cons.mpr ⟨k_144_45, List.forall_mem_cons.mpr ⟨k_144_46, List.forall_mem_cons.mpr ⟨k_144_49, List.forall_mem_cons.mpr ⟨k_144_51, List.forall_mem_cons.mpr ⟨k_144_52, List.forall_mem_cons.mpr ⟨k_144_53, List.forall_mem_cons.mpr ⟨k_144_54, fun _ h => absurd h List.not_mem_nil⟩⟩⟩⟩⟩⟩⟩⟩
def B144_4 : List (Nat × aO) := [(55, oLA 0 56), (56, oGe 5 0 59), (59, oS (gKo (.int 21)) 61), (61, oLI 1 62), (62, oS (gI2 f_iadd) 63), (63, oLA 0 64), (64, oGe 5 0 67), (67, oS (gKo (.int 4)) 68)]
theorem B144_4_ok : ∀ q ∈ B144_4, Ok M144 q.1 q.2 := List.forall_mem_cons.mpr ⟨k_144_55, List.forall_mem_cons.mpr ⟨k_144_56, List.forall_mem_cons.mpr ⟨k_144_59, List.forall_mem_cons.mpr ⟨k_144_61, List.forall_mem_cons.mpr ⟨k_144_62, List.forall_mem_cons.mpr ⟨k_144_63, List.forall_mem_cons.mpr ⟨k_144_64, List.forall_mem_cons.mpr ⟨k_144_67, fun _ h => absurd h List.not_mem_nil⟩⟩⟩⟩⟩⟩⟩⟩
def B144_5 : List (Nat × aO) := [(68, oAI 69), (69, oAT 70), (70, oLA 0 71), (71, oGe 5 0 74), (74, oS (gKo (.int 4)) 75), (75, oS gD2 76), (76, oAI 77), (77, oS (gKo (.int 1)) 78)]
theorem B144_5_ok : ∀ q ∈ B144_5, Ok M144 q.1 q.2 := List.forall_mem_cons.mpr ⟨k_144_68, List.forall_mem_cons.mpr ⟨k_144_69, List.forall_mem_cons.mpr ⟨k_144_70, List.forall_mem_cons.mpr ⟨k_144_71, List.forall_mem_cons.mpr ⟨k_144_74, List.forall_mem_cons.mpr ⟨k_144_75, List.forall_mem_cons.mpr ⟨k_144_76, List.forall_mem_cons.mpr ⟨k_144_77, fun _ h => absurd h List.not_mem_nil⟩⟩⟩⟩⟩⟩⟩⟩
def B144_6 : List (Nat × aO) := [(78, oS (gI2 f_iadd) 79), (79, oAT 80), (80, oLA 0 81), (81, oGe 5 0 84), (84, oS (gKo (.int 5)) 85), (85, oLI 1 86), (86, oAT 87), (87, oLA 0 88)]
theorem B144_6_ok : ∀ q ∈ B144_6, Ok M144 q.1 q.2 := List.forall_mem_cons.mpr ⟨k_144_78, List.forall_mem_cons.mpr ⟨k_144_79, List.forall_mem_cons.mpr ⟨k_144_80, List.forall_mem_cons.mpr ⟨k_144_81, List.forall_mem_cons.mpr ⟨k_144_84, List.forall_mem_cons.mpr ⟨k_144_85, List.forall_mem_cons.mpr ⟨k_144_86, List.forall_mem_cons.mpr ⟨k_144_87, fun _ h => absurd h List.not_mem_nil⟩⟩⟩⟩⟩⟩⟩⟩
def B144_7 : List (Nat × aO) := [(88, oGe 5 0 91), (91, oS (gKo (.int 6)) 93), (93, oLA 0 94), (94, oGe 5 0 97), (97, oS (gKo (.int 3)) 98), (98, oAI 99), (99, oAT 100), (100, oLA 0 101)]
theorem B144_7_ok : ∀ q ∈ B144_7, Ok M144 q.1 q.2 := List.forall_mem_cons.mpr ⟨k_144_88, List.forall_mem_cons.mpr ⟨k_144_91, List.forall_mem_cons.mpr ⟨k_144_93, List.forall_mem_cons.mpr ⟨k_144_94, List.forall_mem_cons.mpr ⟨k_144_97, List.forall_mem_cons.mpr ⟨k_144_98, List.forall_mem_cons.mpr ⟨k_144_99, List.forall_mem_cons.mpr ⟨k_144_100, fun _ h => absurd h List.not_mem_nil⟩⟩⟩⟩⟩⟩⟩⟩
def B144_8 : List (Nat × aO) := [(101, oGe 5 0 104), (104, oS (gKo (.int 3)) 105), (105, oS (gKo (.int 0)) 106), (106, oAT 107), (107, oLI 2 108), (108, oRI)]
theorem B144_8_ok : ∀ q ∈ B144_8, Ok M144 q.1 q.2 := List.forall_mem_cons.mpr ⟨k_144_101, List.forall_mem_cons.mpr ⟨k_144_104, List.forall_mem_cons.mpr ⟨k_144_105, List.forall_mem_cons.mpr ⟨k_144_106, List.forall_mem_cons.mpr ⟨k_144_107, List.forall_mem_cons.mpr ⟨k_144_108, fun _ h => absurd h List.not_mem_nil⟩⟩⟩⟩⟩⟩
def P144 : List (Nat × List (Nat × aO)) := [(14, B144_0), (29, B144_1), (41, B144_2), (54, B144_3), (67, B144_4), (77, B144_5), (87, B144_6), (100, B144_7), (108, B144_8)]
theorem P144_ok : ∀ b ∈ P144, ∀ q ∈ b.2, Ok M144 q.1 q.2 := List.forall_mem_cons.mpr ⟨B144_0_ok, List.forall_mem_cons.mpr ⟨B144_1_ok, List.forall_mem_cons.mpr ⟨B144_2_ok, List.forall_mem_cons.mpr ⟨B144_3_ok, List.forall_mem_cons.mpr ⟨B144_4_ok, List.forall_mem_cons.mpr ⟨B144_5_ok, List.forall_mem_cons.mpr ⟨B144_6_ok, List.forall_mem_cons.mpr ⟨B144_7_ok, List.forall_mem_cons.mpr ⟨B144_8_ok, fun _ h => absurd h List.not_mem_nil⟩⟩⟩⟩⟩⟩⟩⟩⟩
theorem k_145_0 : Ok M145 0 (oLA 0 1) := r_aload_n (j := 0) (by decide +kernel) rfl
theorem k_145_1 : Ok M145 1 (oGe 5 0 4) := r_get (idx := 7) (by decide +kernel) cd_5 0 (by decide) w_678 rfl
theorem k_145_4 : Ok M145 4 (oS (gKo (.int 5)) 5) := r_iconst (n := 5) (by decide +kernel) (by decide +kernel)
theorem k_145_5 : Ok M145 5 (oAI 6) := r_iaload (by decide +kernel)
theorem k_145_6 : Ok M145 6 (oSI 2 3 7) := r_istore_n (j := 2) (by decide +kernel) rfl
theorem k_145_7 : Ok M145 7 (oLA 0 8) := r_aload_n (j := 0) (by decide +kernel) rfl
theorem k_145_8 : Ok M145 8 (oGe 5 0 11) := r_get (idx := 7) (by decide +kernel) cd_5 0 (by decide) w_678 rfl
theorem k_145_11 : Ok M145 11 (oS (gKo (.int 8)) 13) := r_bipush (n := 8) (by decide +kernel) (by decide +kernel)
theorem k_145_13 : Ok M145 13 (oAI 14) := r_iaload (by decide +kernel)
theorem k_145_14 : Ok M145 14 (oLI 1 15) := r_iload_n (j := 1) (by decide +kernel) rfl
theorem k_145_15 : Ok M145 15 (oCS 97 2) := r_callS (idx := 92) (by decide +kernel) w_799 cs_97
theorem k_145_18 : Ok M145 18 (oB1 b_if_eq q_eq 60 21) := r_if_eq (off := 42) (by decide +kernel) (by decide +kernel)
theorem k_145_21 : Ok M145 21 (oLI 2 22) := r_iload_n (j := 2) (by decide +kernel) rfl
theorem k_145_22 : Ok M145 22 (oS (gKo (.int (-1))) 23) := r_iconst (n := (-1)) (by decide +kernel) (by decide +kernel)
theorem k_145_23 : Ok M145 23 (oB2 b_icmp_eq q_eq 60 26) := r_icmp_eq (off := 37) (by decide +kernel) (by decide +kernel)
theorem k_145_26 : Ok M145 26 (oLA 0 27) := r_aload_n (j := 0) (by decide +kernel) rfl
theorem k_145_27 : Ok M145 27 (oGe 5 0 30) := r_get (idx := 7) (by decide +kernel) cd_5 0 (by decide) w_678 rfl
theorem k_145_30 : Ok M145 30 (oS (gKo (.int 15)) 32) := r_bipush (n := 15) (by decide +kernel) (by decide +kernel)
theorem k_145_32 : Ok M145 32 (oLI 2 33) := r_iload_n (j := 2) (by decide +kernel) rfl
theorem k_145_33 : Ok M145 33 (oS (gI2 f_iadd) 34) := r_iadd (by decide +kernel)
theorem k_145_34 : Ok M145 34 (oAI 35) := r_iaload (by decide +kernel)
theorem k_145_35 : Ok M145 35 (oLI 1 36) := r_iload_n (j := 1) (by decide +kernel) rfl
theorem k_145_36 : Ok M145 36 (oB2 b_icmp_eq q_eq 60 39) := r_icmp_eq (off := 24) (by decide +kernel) (by decide +kernel)
theorem k_145_39 : Ok M145 39 (oLA 0 40) := r_aload_n (j := 0) (by decide +kernel) rfl
theorem k_145_40 : Ok M145 40 (oCV 5 142 0) := r_callV (idx := 191) (by decide +kernel) w_935 cv_142
theorem k_145_43 : Ok M145 43 (oLA 0 44) := r_aload_n (j := 0) (by decide +kernel) rfl
theorem k_145_44 : Ok M145 44 (oGe 5 0 47) := r_get (idx := 7) (by decide +kernel) cd_5 0 (by decide) w_678 rfl
theorem k_145_47 : Ok M145 47 (oS (gKo (.int 6)) 49) := r_bipush (n := 6) (by decide +kernel) (by decide +kernel)
theorem k_145_49 : Ok M145 49 (oAI 50) := r_iaload (by decide +kernel)
theorem k_145_50 : Ok M145 50 (oS (gKo (.int (-1))) 51) := r_iconst (n := (-1)) (by decide +kernel) (by decide +kernel)
theorem k_145_51 : Ok M145 51 (oS (gI2 f_ixor) 52) := r_ixor (by decide +kernel)
theorem k_145_52 : Ok M145 52 (oS (gI2 f_iand) 53) := r_iand (by decide +kernel)
theorem k_145_53 : Ok M145 53 (oB1 b_if_eq q_eq 60 56) := r_if_eq (off := 7) (by decide +kernel) (by decide +kernel)
theorem k_145_56 : Ok M145 56 (oS (gKo (.int 1)) 57) := r_iconst (n := 1) (by decide +kernel) (by decide +kernel)
theorem k_145_57 : Ok M145 57 (oGo 61) := r_goto (off := 4) (by decide +kernel) (by decide +kernel)
theorem k_145_60 : Ok M145 60 (oS (gKo (.int 0)) 61) := r_iconst (n := 0) (by decide +kernel) (by decide +kernel)
theorem k_145_61 : Ok M145 61 (oRZ) := r_zreturn rfl (by decide +kernel)
def B145_0 : List (Nat × aO) := [(0, oLA 0 1), (1, oGe 5 0 4), (4, oS (gKo (.int 5)) 5), (5, oAI 6), (6, oSI 2 3 7), (7, oLA 0 8), (8, oGe 5 0 11), (11, oS (gKo (.int 8)) 13)]
theorem B145_0_ok : ∀ q ∈ B145_0, Ok M145 q.1 q.2 := List.forall_mem_cons.mpr ⟨k_145_0, List.forall_mem_cons.mpr ⟨k_145_1, List.forall_mem_cons.mpr ⟨k_145_4, List.forall_mem_cons.mpr ⟨k_145_5, List.forall_mem_cons.mpr ⟨k_145_6, List.forall_mem_cons.mpr ⟨k_145_7, List.forall_mem_cons.mpr ⟨k_145_8, List.forall_mem_cons.mpr ⟨k_145_11, fun _ h => absurd h List.not_mem_nil⟩⟩⟩⟩⟩⟩⟩⟩
def B145_1 : List (Nat × aO) := [(13, oAI 14), (14, oLI 1 15), (15, oCS 97 2), (18, oB1 b_if_eq q_eq 60 21), (21, oLI 2 22), (22, oS (gKo (.int (-1))) 23), (23, oB2 b_icmp_eq q_eq 60 26), (26, oLA 0 27)]
theorem B145_1_ok : ∀ q ∈ B145_1, Ok M145 q.1 q.2 := List.forall_mem_cons.mpr ⟨k_145_13, List.forall_mem_cons.mpr ⟨k_145_14, List.forall_mem_cons.mpr ⟨k_145_15, List.forall_mem_cons.mpr ⟨k_145_18, List.forall_mem_cons.mpr ⟨k_145_21, List.forall_mem_cons.mpr ⟨k_145_22, List.forall_mem_cons.mpr ⟨k_145_23, List.forall_mem_cons.mpr ⟨k_145_26, fun _ h => absurd h List.not_mem_nil⟩⟩⟩⟩⟩⟩⟩⟩
def B145_2 : List (Nat × aO) := [(27, oGe 5 0 30), (30, oS (gKo (.int 15)) 32), (32, oLI 2 33), (33, oS (gI2 f_iadd) 34), (34, oAI 35), (35, oLI 1 36), (36, oB2 b_icmp_eq q_eq 60 39), (39, oLA 0 40)]
theorem B145_2_ok : ∀ q ∈ B145_2, Ok M145 q.1 q.2 := List.forall_mem_cons.mpr ⟨k_145_27, List.forall_mem_cons.mpr ⟨k_145_30, List.forall_mem_cons.mpr ⟨k_145_32, List.forall_mem_cons.mpr ⟨k_145_33, List.forall_mem_cons.mpr ⟨k_145_34, List.forall_mem_cons.mpr ⟨k_145_35, List.forall_mem_cons.mpr ⟨k_145_36, List.forall_mem_cons.mpr ⟨k_145_39, fun _ h => absurd h List.not_mem_nil⟩⟩⟩⟩⟩⟩⟩⟩
def B145_3 : List (Nat × aO) := [(40, oCV 5 142 0), (43, oLA 0 44), (44, oGe 5 0 47), (47, oS (gKo (.int 6)) 49), (49, oAI 50), (50, oS (gKo (.int (-1))) 51), (51, oS (gI2 f_ixor) 52), (52, oS (gI2 f_iand) 53)]
theorem B145_3_ok : ∀ q ∈ B145_3, Ok M145 q.1 q.2 := List.forall_mem_cons.mpr ⟨k_145_40, List.forall_mem_cons.mpr ⟨k_145_43, List.forall_mem_cons.mpr ⟨k_145_44, List.forall_mem_cons.mpr ⟨k_145_47, List.forall_mem_cons.mpr ⟨k_145_49, List.forall_mem_cons.mpr ⟨k_145_50, List.forall_mem_cons.mpr ⟨k_145_51, List.forall_mem_cons.mpr ⟨k_145_52, fun _ h => absurd h List.not_mem_nil⟩⟩⟩⟩⟩⟩⟩⟩
def B145_4 : List (Nat × aO) := [(53, oB1 b_if_eq q_eq 60 56), (56, oS (gKo (.int 1)) 57), (57, oGo 61), (60, oS (gKo (.int 0)) 61), (61, oRZ)]
theorem B145_4_ok : ∀ q ∈ B145_4, Ok M145 q.1 q.2 := List.forall_mem_cons.mpr ⟨k_145_53, List.forall_mem_cons.mpr ⟨k_145_56, List.forall_mem_cons.mpr ⟨k_145_57, List.forall_mem_cons.mpr ⟨k_145_60, List.forall_mem_cons.mpr ⟨k_145_61, fun _ h => absurd h List.not_mem_nil⟩⟩⟩⟩⟩
def P145 : List (Nat × List (Nat × aO)) := [(11, B145_0), (26, B145_1), (39, B145_2), (52, B145_3), (61, B145_4)]
theorem P145_ok : ∀ b ∈ P145, ∀ q ∈ b.2, Ok M145 q.1 q.2 := List.forall_mem_cons.mpr ⟨B145_0_ok, List.forall_mem_cons.mpr ⟨B145_1_ok, List.forall_mem_cons.mpr ⟨B145_2_ok, List.forall_mem_cons.mpr ⟨B145_3_ok, List.forall_mem_cons.mpr ⟨B145_4_ok, fun _ h => absurd h List.not_mem_nil⟩⟩⟩⟩⟩
theorem k_146_0 : Ok M146 0 (oLA 0 1) := r_aload_n (j := 0) (by decide +kernel) rfl
theorem k_146_1 : Ok M146 1 (oLI 1 2) := r_iload_n (j := 1) (by decide +kernel) rfl
theorem k_146_2 : Ok M146 2 (oCV 5 103 1) := r_callV (idx := 174) (by decide +kernel) w_872 cv_103
theorem k_146_5 : Ok M146 5 (oB1 b_if_ne q_ne 15 8) := r_if_ne (off := 10) (by decide +kernel) (by decide +kernel)
theorem k_146_8 : Ok M146 8 (oLA 0 9) := r_aload_n (j := 0) (by decide +kernel) rfl
theorem k_146_9 : Ok M146 9 (oS (gKo (.int (-2))) 11) := r_bipush (n := (-2)) (by decide +kernel) (by decide +kernel)
theorem k_146_11 : Ok M146 11 (oCV 5 99 1) := r_callV (idx := 54) (by decide +kernel) w_747 cv_99
theorem k_146_14 : Ok M146 14 (oRI) := r_ireturn rfl (by decide +kernel)
theorem k_146_15 : Ok M146 15 (oLA 0 16) := r_aload_n (j := 0) (by decide +kernel) rfl
theorem k_146_16 : Ok M146 16 (oLI 1 17) := r_iload_n (j := 1) (by decide +kernel) rfl
theorem k_146_17 : Ok M146 17 (oCV 5 145 1) := r_callV (idx := 197) (by decide +kernel) w_943 cv_145
theorem k_146_20 : Ok M146 20 (oB1 b_if_ne q_ne 30 23) := r_if_ne (off := 10) (by decide +kernel) (by decide +kernel)
theorem k_146_23 : Ok M146 23 (oLA 0 24) := r_aload_n (j := 0) (by decide +kernel) rfl
theorem k_146_24 : Ok M146 24 (oS (gKo (.int (-3))) 26) := r_bipush (n := (-3)) (by decide +kernel) (by decide +kernel)
theorem k_146_26 : Ok M146 26 (oCV 5 99 1) := r_callV (idx := 54) (by decide +kernel) w_747 cv_99
theorem k_146_29 : Ok M146 29 (oRI) := r_ireturn rfl (by decide +kernel)
theorem k_146_30 : Ok M146 30 (oLA 0 31) := r_aload_n (j := 0) (by decide +kernel) rfl
theorem k_146_31 : Ok M146 31 (oCV 5 101 0) := r_callV (idx := 135) (by decide +kernel) w_823 cv_101
theorem k_146_34 : Ok M146 34 (oLA 0 35) := r_aload_n (j := 0) (by decide +kernel) rfl
theorem k_146_35 : Ok M146 35 (oGe 5 0 38) := r_get (idx := 7) (by decide +kernel) cd_5 0 (by decide) w_678 rfl
theorem k_146_38 : Ok M146 38 (oS (gKo (.int 5)) 39) := r_iconst (n := 5) (by decide +kernel) (by decide +kernel)
theorem k_146_39 : Ok M146 39 (oAI 40) := r_iaload (by decide +kernel)
theorem k_146_40 : Ok M146 40 (oSI 2 3 41) := r_istore_n (j := 2) (by decide +kernel) rfl
theorem k_146_41 : Ok M146 41 (oLA 0 42) := r_aload_n (j := 0) (by decide +kernel) rfl
theorem k_146_42 : Ok M146 42 (oGe 5 0 45) := r_get (idx := 7) (by decide +kernel) cd_5 0 (by decide) w_678 rfl
theorem k_146_45 : Ok M146 45 (oS (gKo (.int 15)) 47) := r_bipush (n := 15) (by decide +kernel) (by decide +kernel)
theorem k_146_47 : Ok M146 47 (oLI 2 48) := r_iload_n (j := 2) (by decide +kernel) rfl
theorem k_146_48 : Ok M146 48 (oS (gI2 f_iadd) 49) := r_iadd (by decide +kernel)
theorem k_146_49 : Ok M146 49 (oS (gKo (.int (-1))) 50) := r_iconst (n := (-1)) (by decide +kernel) (by decide +kernel)
theorem k_146_50 : Ok M146 50 (oAT 51) := r_iastore (by decide +kernel)
theorem k_146_51 : Ok M146 51 (oLA 0 52) := r_aload_n (j := 0) (by decide +kernel) rfl
theorem k_146_52 : Ok M146 52 (oGe 5 0 55) := r_get (idx := 7) (by decide +kernel) cd_5 0 (by decide) w_678 rfl
theorem k_146_55 : Ok M146 55 (oS (gKo (.int 21)) 57) := r_bipush (n := 21) (by decide +kernel) (by decide +kernel)
theorem k_146_57 : Ok M146 57 (oLI 2 58) := r_iload_n (j := 2) (by decide +kernel) rfl
theorem k_146_58 : Ok M146 58 (oS (gI2 f_iadd) 59) := r_iadd (by decide +kernel)
theorem k_146_59 : Ok M146 59 (oS (gKo (.int (-1))) 60) := r_iconst (n := (-1)) (by decide +kernel) (by decide +kernel)
theorem k_146_60 : Ok M146 60 (oAT 61) := r_iastore (by decide +kernel)
theorem k_146_61 : Ok M146 61 (oLA 0 62) := r_aload_n (j := 0) (by decide +kernel) rfl
theorem k_146_62 : Ok M146 62 (oGe 5 0 65) := r_get (idx := 7) (by decide +kernel) cd_5 0 (by decide) w_678 rfl
theorem k_146_65 : Ok M146 65 (oS (gKo (.int 4)) 66) := r_iconst (n := 4) (by decide +kernel) (by decide +kernel)
theorem k_146_66 : Ok M146 66 (oS gD2 67) := r_dup2 (by decide +kernel)
theorem k_146_67 : Ok M146 67 (oAI 68) := r_iaload (by decide +kernel)
theorem k_146_68 : Ok M146 68 (oS (gKo (.int 1)) 69) := r_iconst (n := 1) (by decide +kernel) (by decide +kernel)
theorem k_146_69 : Ok M146 69 (oS (gI2 f_isub) 70) := r_isub (by decide +kernel)
theorem k_146_70 : Ok M146 70 (oAT 71) := r_iastore (by decide +kernel)
theorem k_146_71 : Ok M146 71 (oLA 0 72) := r_aload_n (j := 0) (by decide +kernel) rfl
theorem k_146_72 : Ok M146 72 (oGe 5 0 75) := r_get (idx := 7) (by decide +kernel) cd_5 0 (by decide) w_678 rfl
theorem k_146_75 : Ok M146 75 (oS (gKo (.int 3)) 76) := r_iconst (n := 3) (by decide +kernel) (by decide +kernel)
theorem k_146_76 : Ok M146 76 (oLA 0 77) := r_aload_n (j := 0) (by decide +kernel) rfl
theorem k_146_77 : Ok M146 77 (oGe 5 0 80) := r_get (idx := 7) (by decide +kernel) cd_5 0 (by decide) w_678 rfl
theorem k_146_80 : Ok M146 80 (oS (gKo (.int 6)) 82) := r_bipush (n := 6) (by decide +kernel) (by decide +kernel)
theorem k_146_82 : Ok M146 82 (oAI 83) := r_iaload (by decide +kernel)
theorem k_146_83 : Ok M146 83 (oS (gKo (.int 1)) 84) := r_iconst (n := 1) (by decide +kernel) (by decide +kernel)
theorem k_146_84 : Ok M146 84 (oLI 2 85) := r_iload_n (j := 2) (by decide +kernel) rfl
theorem k_146_85 : Ok M146 85 (oS (gI2 f_ishl) 86) := r_ishl (by decide +kernel)
theorem k_146_86 : Ok M146 86 (oS (gI2 f_ior) 87) := r_ior (by decide +kernel)
theorem k_146_87 : Ok M146 87 (oAT 88) := r_iastore (by decide +kernel)
theorem k_146_88 : Ok M146 88 (oLA 0 89) := r_aload_n (j := 0) (by decide +kernel) rfl
theorem k_146_89 : Ok M146 89 (oGe 5 0 92) := r_get (idx := 7) (by decide +kernel) cd_5 0 (by decide) w_678 rfl
theorem k_146_92 : Ok M146 92 (oS (gKo (.int 5)) 93) := r_iconst (n := 5) (by decide +kernel) (by decide +kernel)
theorem k_146_93 : Ok M146 93 (oS (gKo (.int (-1))) 94) := r_iconst (n := (-1)) (by decide +kernel) (by decide +kernel)
theorem k_146_94 : Ok M146 94 (oAT 95) := r_iastore (by decide +kernel)
theorem k_146_95 : Ok M146 95 (oLA 0 96) := r_aload_n (j := 0) (by decide +kernel) rfl
theorem k_146_96 : Ok M146 96 (oGe 5 0 99) := r_get (idx := 7) (by decide +kernel) cd_5 0 (by decide) w_678 rfl
theorem k_146_99 : Ok M146 99 (oS (gKo (.int 6)) 101) := r_bipush (n := 6) (by decide +kernel) (by decide +kernel)
theorem k_146_101 : Ok M146 101 (oS (gKo (.int 0)) 102) := r_iconst (n := 0) (by decide +kernel) (by decide +kernel)
theorem k_146_102 : Ok M146 102 (oAT 103) := r_iastore (by decide +kernel)
theorem k_146_103 : Ok M146 103 (oLA 0 104) := r_aload_n (j := 0) (by decide +kernel) rfl
theorem k_146_104 : Ok M146 104 (oGe 5 0 107) := r_get (idx := 7) (by decide +kernel) cd_5 0 (by decide) w_678 rfl
theorem k_146_107 : Ok M146 107 (oS (gKo (.int 8)) 109) := r_bipush (n := 8) (by decide +kernel) (by decide +kernel)
theorem k_146_109 : Ok M146 109 (oS gD2 110) := r_dup2 (by decide +kernel)
theorem k_146_110 : Ok M146 110 (oAI 111) := r_iaload (by decide +kernel)
theorem k_146_111 : Ok M146 111 (oS (gKo (.int 1)) 112) := r_iconst (n := 1) (by decide +kernel) (by decide +kernel)
theorem k_146_112 : Ok M146 112 (oLI 1 113) := r_iload_n (j := 1) (by decide +kernel) rfl
theorem k_146_113 : Ok M146 113 (oS (gI2 f_ishl) 114) := r_ishl (by decide +kernel)
theorem k_146_114 : Ok M146 114 (oS (gKo (.int (-1))) 115) := r_iconst (n := (-1)) (by decide +kernel) (by decide +kernel)
theorem k_146_115 : Ok M146 115 (oS (gI2 f_ixor) 116) := r_ixor (by decide +kernel)
theorem k_146_116 : Ok M146 116 (oS (gI2 f_iand) 117) := r_iand (by decide +kernel)
theorem k_146_117 : Ok M146 117 (oAT 118) := r_iastore (by decide +kernel)
theorem k_146_118 : Ok M146 118 (oLI 2 119) := r_iload_n (j := 2) (by decide +kernel) rfl
theorem k_146_119 : Ok M146 119 (oRI) := r_ireturn rfl (by decide +kernel)
def B146_0 : List (Nat × aO) := [(0, oLA 0 1), (1, oLI 1 2), (2, oCV 5 103 1), (5, oB1 b_if_ne q_ne 15 8), (8, oLA 0 9), (9, oS (gKo (.int (-2))) 11), (11, oCV 5 99 1), (14, oRI)]
theorem B146_0_ok : ∀ q ∈ B146_0, Ok M146 q.1 q.2 := List.forall_mem_cons.mpr ⟨k_146_0, List.forall_mem_cons.mpr ⟨k_146_1, List.forall_mem_cons.mpr ⟨k_146_2, List.forall_mem_cons.mpr ⟨k_146_5, List.forall_mem_cons.mpr ⟨k_146_8, List.forall_mem_cons.mpr ⟨k_146_9, List.forall_mem_cons.mpr ⟨k_146_11, List.forall_mem_cons.mpr ⟨k_146_14, fun _ h => absurd h List.not_mem_nil⟩⟩⟩⟩⟩⟩⟩⟩
def B146_1 : List (Nat × aO) := [(15, oLA 0 16), (16, oLI 1 17), (17, oCV 5 145 1), (20, oB1 b_if_ne q_ne 30 23), (23, oLA 0 24), (24, oS (gKo (.int (-3))) 26), (26, oCV 5 99 1), (29, oRI)]
theorem B146_1_ok : ∀ q ∈ B146_1, Ok M146 q.1 q.2 := List.forall_mem_cons.mpr ⟨k_146_15, List.forall_mem_cons.mpr ⟨k_146_16, List.forall_mem_cons.mpr ⟨k_146_17, List.forall_mem_cons.mpr ⟨k_146_20, List.forall_mem_cons.mpr ⟨k_146_23, List.forall_mem_cons.mpr ⟨k_146_24, List.forall_mem_cons.mpr ⟨k_146_26, List.forall_mem_cons.mpr ⟨k_146_29, fun _ h => absurd h List.not_mem_nil⟩⟩⟩⟩⟩⟩⟩⟩
def B146_2 : List (Nat × aO) := [(30, oLA 0 31), (31, oCV 5 101 0), (34, oLA 0 35), (35, oGe 5 0 38), (38, oS (gKo (.int 5)) 39), (39, oAI 40), (40, oSI 2 3 41), (41, oLA 0 42)]
theorem B146_2_ok : ∀ q ∈ B146_2, Ok M146 q.1 q.2 := List.forall_mem_cons.mpr ⟨k_146_30, List.forall_mem_cons.mpr ⟨k_146_31, List.forall_mem_cons.mpr ⟨k_146_34, List.forall_mem_cons.mpr ⟨k_146_35, List.forall_mem_cons.mpr ⟨k_146_38, List.forall_mem_cons.mpr ⟨k_146_39, List.forall_mem_cons.mpr ⟨k_146_40, List.forall_mem_cons.mpr ⟨k_146_41, fun _ h => absurd h List.not_mem_nil⟩⟩⟩⟩⟩⟩⟩⟩
def B146_3 : List (Nat × aO) := [(42, oGe 5 0 45), (45, oS (gKo (.int 15)) 47), (47, oLI 2 48), (48, oS (gI2 f_iadd) 49), (49, oS (gKo (.int (-1))) 50), (50, oAT 51), (51, oLA 0 52), (52, oGe 5 0 55)]
theorem B146_3_ok : ∀ q ∈ B146_3, Ok M146 q.1 q.2 := List.forall_mem_cons.mpr ⟨k_146_42, List.forall_mem_cons.mpr ⟨k_146_45, List.forall_mem_cons.mpr ⟨k_146_47, List.forall_mem_cons.mpr ⟨k_146_48, List.forall_mem_cons.mpr ⟨k_146_49, List.forall_mem_cons.mpr ⟨k_146_50, List.forall_mem_cons.mpr ⟨k_146_51, List.forall_mem_cons.mpr ⟨k_146_52, fun _ h => absurd h List.not_mem_nil⟩⟩⟩⟩⟩⟩⟩⟩
def B146_4 : List (Nat × aO) := [(55, oS (gKo (.int 21)) 57), (57, oLI 2 58), (58, oS (gI2 f_iadd) 59), (59, oS (gKo (.int (-1))) 60), (60, oAT 61), (61, oLA 0 62), (62, oGe 5 0 65), (65, oS (gKo (.int 4)) 66)]
theorem B146_4_ok : ∀ q ∈ B146_4, Ok M146 q.1 q.2 := List.forall_mem_cons.mpr ⟨k_146_55, List.forall_mem_cons.mpr ⟨k_146_57, List.forall_mem_cons.mpr ⟨k_146_58, List.forall_mem_cons.mpr ⟨k_146_59, List.forall_mem_cons.mpr ⟨k_146_60, List.forall_mem_cons.mpr ⟨k_146_61, List.forall_mem_cons.mpr ⟨k_146_62, List.forall_mem_cons.mpr ⟨k_146_65, fun _ h => absurd h List.not_mem_nil⟩⟩⟩⟩⟩⟩⟩⟩
def B146_5 : List (Nat × aO) := [(66, oS gD2 67), (67, oAI 68), (68, oS (gKo (.int 1)) 69), (69, oS (gI2 f_isub) 70), (70, oAT 71), (71, oLA 0 72), (72, oGe 5 0 75), (75, oS (gKo (.int 3)) 76)]
theorem B146_5_ok : ∀ q ∈ B146_5, Ok M146 q.1 q.2 := List.forall_mem_cons.mpr ⟨k_146_66, List.forall_mem_cons.mpr ⟨k_146_67, List.forall_mem_cons.mpr ⟨k_146_68, List.forall_mem_cons.mpr ⟨k_146_69, List.forall_mem_cons.mpr ⟨k_146_70, List.forall_mem_cons.mpr ⟨k_146_71, List.forall_mem_cons.mpr ⟨k_146_72, List.forall_mem_cons.mpr ⟨k_146_75, fun _ h => absurd h List.not_mem_nil⟩⟩⟩⟩⟩⟩⟩⟩
def B146_6 : List (Nat × aO) := [(76, oLA 0 77), (77, oGe 5 0 80), (80, oS (gKo (.int 6)) 82), (82, oAI 83), (83, oS (gKo (.int 1)) 84), (84, oLI 2 85), (85, oS (gI2 f_ishl) 86), (86, oS (gI2 f_ior) 87)]
theorem B146_6_ok : ∀ q ∈ B146_6, Ok M146 q.1 q.2 := List.forall_mem_cons.mpr ⟨k_146_76, List.forall_mem_cons.mpr ⟨k_146_77, List.forall_mem_cons.mpr ⟨k_146_80, List.forall_mem_cons.mpr ⟨k_146_82, List.forall_mem_cons.mpr ⟨k_146_83, List.forall_mem_cons.mpr ⟨k_146_84, List.forall_mem_cons.mpr ⟨k_146_85, List.forall_mem_cons.mpr ⟨k_146_86, fun _ h => absurd h List.not_mem_nil⟩⟩⟩⟩⟩⟩⟩⟩
def B146_7 : List (Nat × aO) := [(87, oAT 88), (88, oLA 0 89), (89, oGe 5 0 92), (92, oS (gKo (.int 5)) 93), (93, oS (gKo (.int (-1))) 94), (94, oAT 95), (95, oLA 0 96), (96, oGe 5 0 99)]
theorem B146_7_ok : ∀ q ∈ B146_7, Ok M146 q.1 q.2 := List.forall_mem_cons.mpr ⟨k_146_87, List.forall_mem_cons.mpr ⟨k_146_88, List.forall_mem_cons.mpr ⟨k_146_89, List.forall_mem_cons.mpr ⟨k_146_92, List.forall_mem_cons.mpr ⟨k_146_93, List.forall_mem_cons.mpr ⟨k_146_94, List.forall_mem_cons.mpr ⟨k_146_95, List.forall_mem_cons.mpr ⟨k_146_96, fun _ h => absurd h List.not_mem_nil⟩⟩⟩⟩⟩⟩⟩⟩
def B146_8 : List (Nat × aO) := [(99, oS (gKo (.int 6)) 101), (101, oS (gKo (.int 0)) 102), (102, oAT 103), (103, oLA 0 104), (104, oGe 5 0 107), (107, oS (gKo (.int 8)) 109), (109, oS gD2 110), (110, oAI 111)]
theorem B146_8_ok : ∀ q ∈ B146_8, Ok M146 q.1 q.2 := List.forall_mem_cons.mpr ⟨k_146_99, List.forall_mem_cons.mpr ⟨k_146_101, List.forall_mem_cons.mpr ⟨k_146_102, List.forall_mem_cons.mpr ⟨k_146_103, List.forall_mem_cons.mpr ⟨k_146_104, List.forall_mem_cons.mpr ⟨k_146_107, List.forall_mem_cons.mpr ⟨k_146_109, List.forall_mem_cons.mpr ⟨k_146_110, fun _ h => absurd h List.not_mem_nil⟩⟩⟩⟩⟩⟩⟩⟩
def B146_9 : List (Nat × aO) := [(111, oS (gKo (.int 1)) 112), (112, oLI 1 113), (113, oS (gI2 f_ishl) 114), (114, oS (gKo (.int (-1))) 115), (115, oS (gI2 f_ixor) 116), (116, oS (gI2 f_iand) 117), (117, oAT 118), (118, oLI 2 119)]
theorem B146_9_ok : ∀ q ∈ B146_9, Ok M146 q.1 q.2 := List.forall_mem_cons.mpr ⟨k_146_111, List.forall_mem_cons.mpr ⟨k_146_112, List.forall_mem_cons.mpr ⟨k_146_113, List.forall_mem_cons.mpr ⟨k_146_114, List.forall_mem_cons.mpr ⟨k_146_115, List.forall_mem_cons.mpr ⟨k_146_116, List.forall_mem_cons.mpr ⟨k_146_117, List.forall_mem_cons.mpr ⟨k_146_118, fun _ h => absurd h List.not_mem_nil⟩⟩⟩⟩⟩⟩⟩⟩
def B146_10 : List (Nat × aO) := [(119, oRI)]
theorem B146_10_ok : ∀ q ∈ B146_10, Ok M146 q.1 q.2 := List.forall_mem_cons.mpr ⟨k_146_119, fun _ h => absurd h List.not_mem_nil⟩
def P146 : List (Nat × List (Nat × aO)) := [(14, B146_0), (29, B146_1), (41, B146_2), (52, B146_3), (65, B146_4), (75, B146_5), (86, B146_6), (96, B146_7), (110, B146_8), (118, B146_9), (119, B146_10)]
theorem P146_ok : ∀ b ∈ P146, ∀ q ∈ b.2, Ok M146 q.1 q.2 := List.forall_mem_cons.mpr ⟨B146_0_ok, List.forall_mem_cons.mpr ⟨B146_1_ok, List.forall_mem_cons.mpr ⟨B146_2_ok, List.forall_mem_cons.mpr ⟨B146_3_ok, List.forall_mem_cons.mpr ⟨B146_4_ok, List.forall_mem_cons.mpr ⟨B146_5_ok, List.forall_mem_cons.mpr ⟨B146_6_ok, List.forall_mem_cons.mpr ⟨B146_7_ok, List.forall_mem_cons.mpr ⟨B146_8_ok, List.forall_mem_cons.mpr ⟨B146_9_ok, List.forall_mem_cons.mpr ⟨B146_10_ok, fun _ h => absurd h List.not_mem_nil⟩⟩⟩⟩⟩⟩⟩⟩⟩⟩⟩
theorem k_147_0 : Ok M147 0 (oS (gKo (.int 4)) 1) := r_iconst (n := 4) (by decide +kernel) (by decide +kernel)
theorem k_147_1 : Ok M147 1 (oS (gKo (.int 16)) 3) := r_bipush (n := 16) (by decide +kernel) (by decide +kernel)
theorem k_147_3 : Ok M147 3 (oLI 0 4) := r_iload_n (j := 0) (by decide +kernel) rfl
theorem k_147_4 : Ok M147 4 (oS (gI2 f_imul) 5) := r_imul (by decide +kernel)
theorem k_147_5 : Ok M147 5 (oLI 1 6) := r_iload_n (j := 1) (by decide +kernel) rfl
theorem k_147_6 : Ok M147 6 (oS (gI2 f_iadd) 7) := r_iadd (by decide +kernel)
theorem k_147_7 : Ok M147 7 (oS (gI2 f_imul) 8) := r_imul (by decide +kernel)
theorem k_147_8 : Ok M147 8 (oRI) := r_ireturn rfl (by decide +kernel)
def B147_0 : List (Nat × aO) := [(0, oS (gKo (.int 4)) 1), (1, oS (gKo (.int 16)) 3), (3, oLI 0 4), (4, oS (gI2 f_imul) 5), (5, oLI 1 6), (6, oS (gI2 f_iadd) 7), (7, oS (gI2 f_imul) 8), (8, oRI)]
theorem B147_0_ok : ∀ q ∈ B147_0, Ok M147 q.1 q.2 := List.forall_mem_cons.mpr ⟨k_147_0, List.forall_mem_cons.mpr ⟨k_147_1, List.forall_mem_cons.mpr ⟨k_147_3, List.forall_mem_cons.mpr ⟨k_147_4, List.forall_mem_cons.mpr ⟨k_147_5, List.forall_mem_cons.mpr ⟨k_147_6, List.forall_mem_cons.mpr ⟨k_147_7, List.forall_mem_cons.mpr ⟨k_147_8, fun _ h => absurd h List.not_mem_nil⟩⟩⟩⟩⟩⟩⟩⟩
def P147 : List (Nat × List (Nat × aO)) := [(8, B147_0)]
theorem P147_ok : ∀ b ∈ P147, ∀ q ∈ b.2, Ok M147 q.1 q.2 := List.forall_mem_cons.mpr ⟨B147_0_ok, fun _ h => absurd h List.not_mem_nil⟩
theorem k_148_0 : Ok M148 0 (oLA 0 1) := r_aload_n (j := 0) (by decide +kernel) rfl
theorem k_148_1 : Ok M148 1 (oS (gKo (.int 0)) 2) := r_iconst (n := 0) (by decide +kernel) (by decide +kernel)
theorem k_148_2 : Ok M148 2 (oPI 5 17 5) := r_putI (idx := 200) (by decide +kernel) cd_5 17 (by decide) w_695 rfl rfl (by decide +kernel)
theorem k_148_5 : Ok M148 5 (oS (gKo (.int 0)) 6) := r_iconst (n := 0) (by decide +kernel) (by decide +kernel)
theorem k_148_6 : Ok M148 6 (oSI 2 4 7) := r_istore_n (j := 2) (by decide +kernel) rfl
theorem k_148_7 : Ok M148 7 (oLI 2 8) := r_iload_n (j := 2) (by decide +kernel) rfl
theorem k_148_8 : Ok M148 8 (oLA 0 9) := r_aload_n (j := 0) (by decide +kernel) rfl
theorem k_148_9 : Ok M148 9 (oGe 5 0 12) := r_get (idx := 7) (by decide +kernel) cd_5 0 (by decide) w_678 rfl
theorem k_148_12 : Ok M148 12 (oS (gKo (.int 1)) 13) := r_iconst (n := 1) (by decide +kernel) (by decide +kernel)
theorem k_148_13 : Ok M148 13 (oAI 14) := r_iaload (by decide +kernel)
theorem k_148_14 : Ok M148 14 (oB2 b_icmp_ge q_ge 102 17) := r_icmp_ge (off := 88) (by decide +kernel) (by decide +kernel)
theorem k_148_17 : Ok M148 17 (oLI 2 18) := r_iload_n (j := 2) (by decide +kernel) rfl
theorem k_148_18 : Ok M148 18 (oLI 1 19) := r_iload_n (j := 1) (by decide +kernel) rfl
theorem k_148_19 : Ok M148 19 (oB2 b_icmp_eq q_eq 96 22) := r_icmp_eq (off := 77) (by decide +kernel) (by decide +kernel)
theorem k_148_22 : Ok M148 22 (oLA 0 23) := r_aload_n (j := 0) (by decide +kernel) rfl
theorem k_148_23 : Ok M148 23 (oGe 5 17 26) := r_get (idx := 200) (by decide +kernel) cd_5 17 (by decide) w_695 rfl
theorem k_148_26 : Ok M148 26 (oSI 3 4 27) := r_istore_n (j := 3) (by decide +kernel) rfl
theorem k_148_27 : Ok M148 27 (oLI 3 28) := r_iload_n (j := 3) (by decide +kernel) rfl
theorem k_148_28 : Ok M148 28 (oB1 b_if_le q_le 79 31) := r_if_le (off := 51) (by decide +kernel) (by decide +kernel)
theorem k_148_31 : Ok M148 31 (oLA 0 32) := r_aload_n (j := 0) (by decide +kernel) rfl
theorem k_148_32 : Ok M148 32 (oGe 5 0 35) := r_get (idx := 7) (by decide +kernel) cd_5 0 (by decide) w_678 rfl
theorem k_148_35 : Ok M148 35 (oS (gKo (.int 27)) 37) := r_bipush (n := 27) (by decide +kernel) (by decide +kernel)
theorem k_148_37 : Ok M148 37 (oLA 0 38) := r_aload_n (j := 0) (by decide +kernel) rfl
theorem k_148_38 : Ok M148 38 (oGe 5 16 41) := r_get (idx := 34) (by decide +kernel) cd_5 16 (by decide) w_694 rfl
theorem k_148_41 : Ok M148 41 (oLI 3 42) := r_iload_n (j := 3) (by decide +kernel) rfl
theorem k_148_42 : Ok M148 42 (oS (gKo (.int 1)) 43) := r_iconst (n := 1) (by decide +kernel) (by decide +kernel)
theorem k_148_43 : Ok M148 43 (oS (gI2 f_isub) 44) := r_isub (by decide +kernel)
theorem k_148_44 : Ok M148 44 (oAI 45) := r_iaload (by decide +kernel)
theorem k_148_45 : Ok M148 45 (oS (gI2 f_iadd) 46) := r_iadd (by decide +kernel)
theorem k_148_46 : Ok M148 46 (oAI 47) := r_iaload (by decide +kernel)
theorem k_148_47 : Ok M148 47 (oLA 0 48) := r_aload_n (j := 0) (by decide +kernel) rfl
theorem k_148_48 : Ok M148 48 (oGe 5 0 51) := r_get (idx := 7) (by decide +kernel) cd_5 0 (by decide) w_678 rfl
theorem k_148_51 : Ok M148 51 (oS (gKo (.int 27)) 53) := r_bipush (n := 27) (by decide +kernel) (by decide +kernel)
theorem k_148_53 : Ok M148 53 (oLI 2 54) := r_iload_n (j := 2) (by decide +kernel) rfl
theorem k_148_54 : Ok M148 54 (oS (gI2 f_iadd) 55) := r_iadd (by decide +kernel)
theorem k_148_55 : Ok M148 55 (oAI 56) := r_iaload (by decide +kernel)
theorem k_148_56 : Ok M148 56 (oB2 b_icmp_ge q_ge 79 59) := r_icmp_ge (off := 23) (by decide +kernel) (by decide +kernel)
theorem k_148_59 : Ok M148 59 (oLA 0 60) := r_aload_n (j := 0) (by decide +kernel) rfl
theorem k_148_60 : Ok M148 60 (oGe 5 16 63) := r_get (idx := 34) (by decide +kernel) cd_5 16 (by decide) w_694 rfl
theorem k_148_63 : Ok M148 63 (oLI 3 64) := r_iload_n (j := 3) (by decide +kernel) rfl
theorem k_148_64 : Ok M148 64 (oLA 0 65) := r_aload_n (j := 0) (by decide +kernel) rfl
theorem k_148_65 : Ok M148 65 (oGe 5 16 68) := r_get (idx := 34) (by decide +kernel) cd_5 16 (by decide) w_694 rfl
theorem k_148_68 : Ok M148 68 (oLI 3 69) := r_iload_n (j := 3) (by decide +kernel) rfl
theorem k_148_69 : Ok M148 69 (oS (gKo (.int 1)) 70) := r_iconst (n := 1) (by decide +kernel) (by decide +kernel)
theorem k_148_70 : Ok M148 70 (oS (gI2 f_isub) 71) := r_isub (by decide +kernel)
theorem k_148_71 : Ok M148 71 (oAI 72) := r_iaload (by decide +kernel)
theorem k_148_72 : Ok M148 72 (oAT 73) := r_iastore (by decide +kernel)
theorem k_148_73 : Ok M148 73 (oInc 3 (-1) 4 76) := r_iinc (n := (-1)) (by decide +kernel) (by decide +kernel)
theorem k_148_76 : Ok M148 76 (oGo 27) := r_goto (off := (-49)) (by decide +kernel) (by decide +kernel)
theorem k_148_79 : Ok M148 79 (oLA 0 80) := r_aload_n (j := 0) (by decide +kernel) rfl
theorem k_148_80 : Ok M148 80 (oGe 5 16 83) := r_get (idx := 34) (by decide +kernel) cd_5 16 (by decide) w_694 rfl
theorem k_148_83 : Ok M148 83 (oLI 3 84) := r_iload_n (j := 3) (by decide +kernel) rfl
theorem k_148_84 : Ok M148 84 (oLI 2 85) := r_iload_n (j := 2) (by decide +kernel) rfl
theorem k_148_85 : Ok M148 85 (oAT 86) := r_iastore (by decide +kernel)
theorem k_148_86 : Ok M148 86 (oLA 0 87) := r_aload_n (j := 0) (by decide +kernel) rfl
theorem k_148_87 : Ok M148 87 (oS gDu 88) := r_dup (by decide +kernel)
theorem k_148_88 : Ok M148 88 (oGe 5 17 91) := r_get (idx := 200) (by decide +kernel) cd_5 17 (by decide) w_695 rfl
theorem k_148_91 : Ok M148 91 (oS (gKo (.int 1)) 92) := r_iconst (n := 1) (by decide +kernel) (by decide +kernel)
theorem k_148_92 : Ok M148 92 (oS (gI2 f_iadd) 93) := r_iadd (by decide +kernel)
theorem k_148_93 : Ok M148 93 (oPI 5 17 96) := r_putI (idx := 200) (by decide +kernel) cd_5 17 (by decide) w_695 rfl rfl (by decide +kernel)
theorem k_148_96 : Ok M148 96 (oInc 2 1 4 99) := r_iinc (n := 1) (by decide +kernel) (by decide +kernel)
theorem k_148_99 : Ok M148 99 (oGo 7) := r_goto (off := (-92)) (by decide +kernel) (by decide +kernel)
theorem k_148_102 : Ok M148 102 (oRV) := r_return rfl (by decide +kernel)
def B148_0 : List (Nat × aO) := [(0, oLA 0 1), (1, oS (gKo (.int 0)) 2), (2, oPI 5 17 5), (5, oS (gKo (.int 0)) 6), (6, oSI 2 4 7), (7, oLI 2 8), (8, oLA 0 9), (9, oGe 5 0 12)]
theorem B148_0_ok : ∀ q ∈ B148_0, Ok M148 q.1 q.2 := List.forall_mem_cons.mpr ⟨k_148_0, List.forall_mem_cons.mpr ⟨k_148_1, List.forall_mem_cons.mpr ⟨k_148_2, List.forall_mem_cons.mpr ⟨k_148_5, List.forall_mem_cons.mpr ⟨k_148_6, List.forall_mem_cons.mpr ⟨k_148_7, List.forall_mem_cons.mpr ⟨k_148_8, List.forall_mem_cons.mpr ⟨k_148_9, fun _ h => absurd h List.not_mem_nil⟩⟩⟩⟩⟩⟩⟩⟩
def B148_1 : List (Nat × aO) := [(12, oS (gKo (.int 1)) 13), (13, oAI 14), (14, oB2 b_icmp_ge q_ge 102 17), (17, oLI 2 18), (18, oLI 1 19), (19, oB2 b_icmp_eq q_eq 96 22), (22, oLA 0 23), (23, oGe 5 17 26)]
theorem B148_1_ok : ∀ q ∈ B148_1, Ok M148 q.1 q.2 := List.forall_mem_cons.mpr ⟨k_148_12, List.forall_mem_cons.mpr ⟨k_148_13, List.forall_mem_cons.mpr ⟨k_148_14, List.forall_mem_cons.mpr ⟨k_148_17, List.forall_mem_cons.mpr ⟨k_148_18, List.forall_mem_cons.mpr ⟨k_148_19, List.forall_mem_cons.mpr ⟨k_148_22, List.forall_mem_cons.mpr ⟨k_148_23, fun _ h => absurd h List.not_mem_nil⟩⟩⟩⟩⟩⟩⟩⟩
def B148_2 : List (Nat × aO) := [(26, oSI 3 4 27), (27, oLI 3 28), (28, oB1 b_if_le q_le 79 31), (31, oLA 0 32), (32, oGe 5 0 35), (35, oS (gKo (.int 27)) 37), (37, oLA 0 38), (38, oGe 5 16 41)]
theorem B148_2_ok : ∀ q ∈ B148_2, Ok M148 q.1 q.2 := List.forall_mem_cons.mpr ⟨k_148_26, List.forall_mem_cons.mpr ⟨k_148_27, List.forall_mem_cons.mpr ⟨k_148_28, List.forall_mem_cons.mpr ⟨k_148_31, List.forall_mem_cons.mpr ⟨k_148_32, List.forall_mem_cons.mpr ⟨k_148_35, List.forall_mem_cons.mpr ⟨k_148_37, List.forall_mem_cons.mpr ⟨k_148_38, fun _ h => absurd h List.not_mem_nil⟩⟩⟩⟩⟩⟩⟩⟩
def B148_3 : List (Nat × aO) := [(41, oLI 3 42), (42, oS (gKo (.int 1)) 43), (43, oS (gI2 f_isub) 44), (44, oAI 45), (45, oS (gI2 f_iadd) 46), (46, oAI 47), (47, oLA 0 48), (48, oGe 5 0 51)]
theorem B148_3_ok : ∀ q ∈ B148_3, Ok M148 q.1 q.2 := List.forall_mem_cons.mpr ⟨k_148_41, List.forall_mem_cons.mpr ⟨k_148_42, List.forall_mem_cons.mpr ⟨k_148_43, List.forall_mem_cons.mpr ⟨k_148_44, List.forall_mem_cons.mpr ⟨k_148_45, List.forall_mem_cons.mpr ⟨k_148_46, List.forall_mem_cons.mpr ⟨k_148_47, List.forall_mem_cons.mpr ⟨k_148_48, fun _ h => absurd h List.not_mem_nil⟩⟩⟩⟩⟩⟩⟩⟩
def B148_4 : List (Nat × aO) := [(51, oS (gKo (.int 27)) 53), (53, oLI 2 54), (54, oS (gI2 f_iadd) 55), (55, oAI 56), (56, oB2 b_icmp_ge q_ge 79 59), (59, oLA 0 60), (60, oGe 5 16 63), (63, oLI 3 64)]
theorem B148_4_ok : ∀ q ∈ B148_4, Ok M148 q.1 q.2 := List.forall_mem_cons.mpr ⟨k_148_51, List.forall_mem_cons.mpr ⟨k_148_53, List.forall_mem_cons.mpr ⟨k_148_54, List.forall_mem_cons.mpr ⟨k_148_55, List.forall_mem_cons.mpr ⟨k_148_56, List.forall_mem_cons.mpr ⟨k_148_59, List.forall_mem_cons.mpr ⟨k_148_60, List.forall_mem_cons.mpr ⟨k_148_63, fun _ h => absurd h List.not_mem_nil⟩⟩⟩⟩⟩⟩⟩⟩
def B148_5 : List (Nat × aO) := [(64, oLA 0 65), (65, oGe 5 16 68), (68, oLI 3 69), (69, oS (gKo (.int 1)) 70), (70, oS (gI2 f_isub) 71), (71, oAI 72), (72, oAT 73), (73, oInc 3 (-1) 4 76)]
theorem B148_5_ok : ∀ q ∈ B148_5, Ok M148 q.1 q.2 := List.forall_mem_cons.mpr ⟨k_148_64, List.forall_mem_cons.mpr ⟨k_148_65, List.forall_mem_cons.mpr ⟨k_148_68, List.forall_mem_cons.mpr ⟨k_148_69, List.forall_mem_cons.mpr ⟨k_148_70, List.forall_mem_cons.mpr ⟨k_148_71, List.forall_mem_cons.mpr ⟨k_148_72, List.forall_mem_cons.mpr ⟨k_148_73, fun _ h => absurd h List.not_mem_nil⟩⟩⟩⟩⟩⟩⟩⟩
def B148_6 : List (Nat × aO) := [(76, oGo 27), (79, oLA 0 80), (80, oGe 5 16 83), (83, oLI 3 84), (84, oLI 2 85), (85, oAT 86), (86, oLA 0 87), (87, oS gDu 88)]
theorem B148_6_ok : ∀ q ∈ B148_6, Ok M148 q.1 q.2 := List.forall_mem_cons.mpr ⟨k_148_76, List.forall_mem_cons.mpr ⟨k_148_79, List.forall_mem_cons.mpr ⟨k_148_80, List.forall_mem_cons.mpr ⟨k_148_83, List.forall_mem_cons.mpr ⟨k_148_84, List.forall_mem_cons.mpr ⟨k_148_85, List.forall_mem_cons.mpr ⟨k_148_86, List.forall_mem_cons.mpr ⟨k_148_87, fun _ h => absurd h List.not_mem_nil⟩⟩⟩⟩⟩⟩⟩⟩
def B148_7 : List (Nat × aO) := [(88, oGe 5 17 91), (91, oS (gKo (.int 1)) 92), (92, oS (gI2 f_iadd) 93), (93, oPI 5 17 96), (96, oInc 2 1 4 99), (99, oGo 7), (102, oRV)]
theorem B148_7_ok : ∀ q ∈ B148_7, Ok M148 q.1 q.2 := List.forall_mem_cons.mpr ⟨k_148_88, List.forall_mem_cons.mpr ⟨k_148_91, List.forall_mem_cons.mpr ⟨k_148_92, List.forall_mem_cons.mpr ⟨k_148_93, List.forall_mem_cons.mpr ⟨k_148_96, List.forall_mem_cons.mpr ⟨k_148_99, List.forall_mem_cons.mpr ⟨k_148_102, fun _ h => absurd h List.not_mem_nil⟩⟩⟩⟩⟩⟩⟩
def P148 : List (Nat × List (Nat × aO)) := [(9, B148_0), (23, B148_1), (38, B148_2), (48, B148_3), (63, B148_4), (73, B148_5), (87, B148_6), (102, B148_7)]
theorem P148_ok : ∀ b ∈ P148, ∀ q ∈ b.2, Ok M148 q.1 q.2 := List.forall_mem_cons.mpr ⟨B148_0_ok, List.forall_mem_cons.mpr ⟨B148_1_ok, List.forall_mem_cons.mpr ⟨B148_2_ok, List.forall_mem_cons.mpr ⟨B148_3_ok, List.forall_mem_cons.mpr ⟨B148_4_ok, List.forall_mem_cons.mpr ⟨B148_5_ok, List.forall_mem_cons.mpr ⟨B148_6_ok, List.forall_mem_cons.mpr ⟨B148_7_ok, fun _ h => absurd h List.not_mem_nil⟩⟩⟩⟩⟩⟩⟩⟩
theorem k_149_0 : Ok M149 0 (oLI 1 1) := r_iload_n (j := 1) (by decide +kernel) rfl
theorem k_149_1 : Ok M149 1 (oS (gKo (.int 1)) 2) := r_iconst (n := 1) (by decide +kernel) (by decide +kernel)
theorem k_149_2 : Ok M149 2 (oLI 5 4) := r_iload (by decide +kernel)
theorem k_149_4 : Ok M149 4 (oS (gI2 f_ishl) 5) := r_ishl (by decide +kernel)
theorem k_149_5 : Ok M149 5 (oS (gKo (.int (-1))) 6) := r_iconst (n := (-1)) (by decide +kernel) (by decide +kernel)
theorem k_149_6 : Ok M149 6 (oS (gI2 f_ixor) 7) := r_ixor (by decide +kernel)
theorem k_149_7 : Ok M149 7 (oS (gI2 f_iand) 8) := r_iand (by decide +kernel)
theorem k_149_8 : Ok M149 8 (oLI 3 9) := r_iload_n (j := 3) (by decide +kernel) rfl
theorem k_149_9 : Ok M149 9 (oCS 147 2) := r_callS (idx := 203) (by decide +kernel) w_982 cs_147
theorem k_149_12 : Ok M149 12 (oSI 6 12 14) := r_istore (by decide +kernel)
theorem k_149_14 : Ok M149 14 (oS (gKo (.int 0)) 15) := r_iconst (n := 0) (by decide +kernel) (by decide +kernel)
theorem k_149_15 : Ok M149 15 (oSI 7 12 17) := r_istore (by decide +kernel)
theorem k_149_17 : Ok M149 17 (oLI 7 19) := r_iload (by decide +kernel)
theorem k_149_19 : Ok M149 19 (oS (gKo (.int 4)) 20) := r_iconst (n := 4) (by decide +kernel) (by decide +kernel)
theorem k_149_20 : Ok M149 20 (oB2 b_icmp_ge q_ge 66 23) := r_icmp_ge (off := 46) (by decide +kernel) (by decide +kernel)
theorem k_149_23 : Ok M149 23 (oLA 0 24) := r_aload_n (j := 0) (by decide +kernel) rfl
theorem k_149_24 : Ok M149 24 (oGe 5 18 27) := r_get (idx := 37) (by decide +kernel) cd_5 18 (by decide) w_696 rfl
theorem k_149_27 : Ok M149 27 (oLI 7 29) := r_iload (by decide +kernel)
theorem k_149_29 : Ok M149 29 (oLA 0 30) := r_aload_n (j := 0) (by decide +kernel) rfl
theorem k_149_30 : Ok M149 30 (oGe 5 14 33) := r_get (idx := 28) (by decide +kernel) cd_5 14 (by decide) w_692 rfl
theorem k_149_33 : Ok M149 33 (oLI 6 35) := r_iload (by decide +kernel)
theorem k_149_35 : Ok M149 35 (oLI 7 37) := r_iload (by decide +kernel)
theorem k_149_37 : Ok M149 37 (oS (gI2 f_iadd) 38) := r_iadd (by decide +kernel)
theorem k_149_38 : Ok M149 38 (oAI 39) := r_iaload (by decide +kernel)
theorem k_149_39 : Ok M149 39 (oLI 7 41) := r_iload (by decide +kernel)
theorem k_149_41 : Ok M149 41 (oLI 4 43) := r_iload (by decide +kernel)
theorem k_149_43 : Ok M149 43 (oB2 b_icmp_ne q_ne 57 46) := r_icmp_ne (off := 14) (by decide +kernel) (by decide +kernel)
theorem k_149_46 : Ok M149 46 (oLA 0 47) := r_aload_n (j := 0) (by decide +kernel) rfl
theorem k_149_47 : Ok M149 47 (oLI 7 49) := r_iload (by decide +kernel)
theorem k_149_49 : Ok M149 49 (oLI 5 51) := r_iload (by decide +kernel)
theorem k_149_51 : Ok M149 51 (oCV 5 104 2) := r_callV (idx := 155) (by decide +kernel) w_885 cv_104
theorem k_149_54 : Ok M149 54 (oGo 58) := r_goto (off := 4) (by decide +kernel) (by decide +kernel)
theorem k_149_57 : Ok M149 57 (oS (gKo (.int 0)) 58) := r_iconst (n := 0) (by decide +kernel) (by decide +kernel)
theorem k_149_58 : Ok M149 58 (oS (gI2 f_iadd) 59) := r_iadd (by decide +kernel)
theorem k_149_59 : Ok M149 59 (oAT 60) := r_iastore (by decide +kernel)
theorem k_149_60 : Ok M149 60 (oInc 7 1 12 63) := r_iinc (n := 1) (by decide +kernel) (by decide +kernel)
theorem k_149_63 : Ok M149 63 (oGo 17) := r_goto (off := (-46)) (by decide +kernel) (by decide +kernel)
theorem k_149_66 : Ok M149 66 (oLA 0 67) := r_aload_n (j := 0) (by decide +kernel) rfl
theorem k_149_67 : Ok M149 67 (oS (gKo (.int (-1))) 68) := r_iconst (n := (-1)) (by decide +kernel) (by decide +kernel)
theorem k_149_68 : Ok M149 68 (oPI 5 19 71) := r_putI (idx := 206) (by decide +kernel) cd_5 19 (by decide) w_697 rfl rfl (by decide +kernel)
theorem k_149_71 : Ok M149 71 (oLI 1 72) := r_iload_n (j := 1) (by decide +kernel) rfl
theorem k_149_72 : Ok M149 72 (oLI 2 73) := r_iload_n (j := 2) (by decide +kernel) rfl
theorem k_149_73 : Ok M149 73 (oS (gKo (.int (-1))) 74) := r_iconst (n := (-1)) (by decide +kernel) (by decide +kernel)
theorem k_149_74 : Ok M149 74 (oS (gI2 f_ixor) 75) := r_ixor (by decide +kernel)
theorem k_149_75 : Ok M149 75 (oS (gI2 f_iand) 76) := r_iand (by decide +kernel)
theorem k_149_76 : Ok M149 76 (oS (gKo (.int 1)) 77) := r_iconst (n := 1) (by decide +kernel) (by decide +kernel)
theorem k_149_77 : Ok M149 77 (oLI 5 79) := r_iload (by decide +kernel)
theorem k_149_79 : Ok M149 79 (oS (gI2 f_ishl) 80) := r_ishl (by decide +kernel)
theorem k_149_80 : Ok M149 80 (oB2 b_icmp_ne q_ne 87 83) := r_icmp_ne (off := 7) (by decide +kernel) (by decide +kernel)
theorem k_149_83 : Ok M149 83 (oS (gKo (.int 1)) 84) := r_iconst (n := 1) (by decide +kernel) (by decide +kernel)
theorem k_149_84 : Ok M149 84 (oGo 88) := r_goto (off := 4) (by decide +kernel) (by decide +kernel)
theorem k_149_87 : Ok M149 87 (oS (gKo (.int 0)) 88) := r_iconst (n := 0) (by decide +kernel) (by decide +kernel)
theorem k_149_88 : Ok M149 88 (oSI 7 12 90) := r_istore (by decide +kernel)
theorem k_149_90 : Ok M149 90 (oLA 0 91) := r_aload_n (j := 0) (by decide +kernel) rfl
theorem k_149_91 : Ok M149 91 (oGe 5 17 94) := r_get (idx := 200) (by decide +kernel) cd_5 17 (by decide) w_695 rfl
theorem k_149_94 : Ok M149 94 (oS (gKo (.int 1)) 95) := r_iconst (n := 1) (by decide +kernel) (by decide +kernel)
theorem k_149_95 : Ok M149 95 (oS (gI2 f_isub) 96) := r_isub (by decide +kernel)
theorem k_149_96 : Ok M149 96 (oSI 8 12 98) := r_istore (by decide +kernel)
theorem k_149_98 : Ok M149 98 (oLI 8 100) := r_iload (by decide +kernel)
theorem k_149_100 : Ok M149 100 (oB1 b_if_lt q_lt 218 103) := r_if_lt (off := 118) (by decide +kernel) (by decide +kernel)
theorem k_149_103 : Ok M149 103 (oLI 7 105) := r_iload (by decide +kernel)
theorem k_149_105 : Ok M149 105 (oB1 b_if_ne q_ne 218 108) := r_if_ne (off := 113) (by decide +kernel) (by decide +kernel)
theorem k_149_108 : Ok M149 108 (oLA 0 109) := r_aload_n (j := 0) (by decide +kernel) rfl
theorem k_149_109 : Ok M149 109 (oGe 5 16 112) := r_get (idx := 34) (by decide +kernel) cd_5 16 (by decide) w_694 rfl
theorem k_149_112 : Ok M149 112 (oLI 8 114) := r_iload (by decide +kernel)
theorem k_149_114 : Ok M149 114 (oAI 115) := r_iaload (by decide +kernel)
theorem k_149_115 : Ok M149 115 (oSI 9 12 117) := r_istore (by decide +kernel)
theorem k_149_117 : Ok M149 117 (oLI 3 118) := r_iload_n (j := 3) (by decide +kernel) rfl
theorem k_149_118 : Ok M149 118 (oLI 9 120) := r_iload (by decide +kernel)
theorem k_149_120 : Ok M149 120 (oCS 97 2) := r_callS (idx := 92) (by decide +kernel) w_799 cs_97
theorem k_149_123 : Ok M149 123 (oB1 b_if_eq q_eq 146 126) := r_if_eq (off := 23) (by decide +kernel) (by decide +kernel)
theorem k_149_126 : Ok M149 126 (oLI 2 127) := r_iload_n (j := 2) (by decide +kernel) rfl
theorem k_149_127 : Ok M149 127 (oS (gKo (.int 1)) 128) := r_iconst (n := 1) (by decide +kernel) (by decide +kernel)
theorem k_149_128 : Ok M149 128 (oLI 5 130) := r_iload (by decide +kernel)
theorem k_149_130 : Ok M149 130 (oS (gI2 f_ishl) 131) := r_ishl (by decide +kernel)
theorem k_149_131 : Ok M149 131 (oS (gI2 f_ior) 132) := r_ior (by decide +kernel)
theorem k_149_132 : Ok M149 132 (oLI 3 133) := r_iload_n (j := 3) (by decide +kernel) rfl
theorem k_149_133 : Ok M149 133 (oS (gKo (.int 1)) 134) := r_iconst (n := 1) (by decide +kernel) (by decide +kernel)
theorem k_149_134 : Ok M149 134 (oLI 9 136) := r_iload (by decide +kernel)
theorem k_149_136 : Ok M149 136 (oS (gI2 f_ishl) 137) := r_ishl (by decide +kernel)
theorem k_149_137 : Ok M149 137 (oS (gKo (.int (-1))) 138) := r_iconst (n := (-1)) (by decide +kernel) (by decide +kernel)
theorem k_149_138 : Ok M149 138 (oS (gI2 f_ixor) 139) := r_ixor (by decide +kernel)
theorem k_149_139 : Ok M149 139 (oS (gI2 f_iand) 140) := r_iand (by decide +kernel)
theorem k_149_140 : Ok M149 140 (oCS 147 2) := r_callS (idx := 203) (by decide +kernel) w_982 cs_147
theorem k_149_143 : Ok M149 143 (oGo 147) := r_goto (off := 4) (by decide +kernel) (by decide +kernel)
theorem k_149_146 : Ok M149 146 (oS (gKo (.int (-1))) 147) := r_iconst (n := (-1)) (by decide +kernel) (by decide +kernel)
theorem k_149_147 : Ok M149 147 (oSI 10 12 149) := r_istore (by decide +kernel)
theorem k_149_149 : Ok M149 149 (oLI 10 151) := r_iload (by decide +kernel)
theorem k_149_151 : Ok M149 151 (oB1 b_if_lt q_lt 212 154) := r_if_lt (off := 61) (by decide +kernel) (by decide +kernel)
theorem k_149_154 : Ok M149 154 (oLA 0 155) := r_aload_n (j := 0) (by decide +kernel) rfl
theorem k_149_155 : Ok M149 155 (oGe 5 15 158) := r_get (idx := 31) (by decide +kernel) cd_5 15 (by decide) w_693 rfl
theorem k_149_158 : Ok M149 158 (oLI 10 160) := r_iload (by decide +kernel)
theorem k_149_160 : Ok M149 160 (oLI 9 162) := r_iload (by decide +kernel)
theorem k_149_162 : Ok M149 162 (oS (gI2 f_iadd) 163) := r_iadd (by decide +kernel)
theorem k_149_163 : Ok M149 163 (oAI 164) := r_iaload (by decide +kernel)
theorem k_149_164 : Ok M149 164 (oLA 0 165) := r_aload_n (j := 0) (by decide +kernel) rfl
theorem k_149_165 : Ok M149 165 (oGe 5 18 168) := r_get (idx := 37) (by decide +kernel) cd_5 18 (by decide) w_696 rfl
theorem k_149_168 : Ok M149 168 (oLI 9 170) := r_iload (by decide +kernel)
theorem k_149_170 : Ok M149 170 (oAI 171) := r_iaload (by decide +kernel)
theorem k_149_171 : Ok M149 171 (oB2 b_icmp_le q_le 212 174) := r_icmp_le (off := 41) (by decide +kernel) (by decide +kernel)
theorem k_149_174 : Ok M149 174 (oLA 0 175) := r_aload_n (j := 0) (by decide +kernel) rfl
theorem k_149_175 : Ok M149 175 (oLI 9 177) := r_iload (by decide +kernel)
theorem k_149_177 : Ok M149 177 (oPI 5 19 180) := r_putI (idx := 206) (by decide +kernel) cd_5 19 (by decide) w_697 rfl rfl (by decide +kernel)
theorem k_149_180 : Ok M149 180 (oS (gKo (.int 0)) 181) := r_iconst (n := 0) (by decide +kernel) (by decide +kernel)
theorem k_149_181 : Ok M149 181 (oSI 11 12 183) := r_istore (by decide +kernel)
theorem k_149_183 : Ok M149 183 (oLI 11 185) := r_iload (by decide +kernel)
theorem k_149_185 : Ok M149 185 (oS (gKo (.int 4)) 186) := r_iconst (n := 4) (by decide +kernel) (by decide +kernel)
theorem k_149_186 : Ok M149 186 (oB2 b_icmp_ge q_ge 212 189) := r_icmp_ge (off := 26) (by decide +kernel) (by decide +kernel)
theorem k_149_189 : Ok M149 189 (oLA 0 190) := r_aload_n (j := 0) (by decide +kernel) rfl
theorem k_149_190 : Ok M149 190 (oGe 5 18 193) := r_get (idx := 37) (by decide +kernel) cd_5 18 (by decide) w_696 rfl
theorem k_149_193 : Ok M149 193 (oLI 11 195) := r_iload (by decide +kernel)
theorem k_149_195 : Ok M149 195 (oLA 0 196) := r_aload_n (j := 0) (by decide +kernel) rfl
theorem k_149_196 : Ok M149 196 (oGe 5 15 199) := r_get (idx := 31) (by decide +kernel) cd_5 15 (by decide) w_693 rfl
theorem k_149_199 : Ok M149 199 (oLI 10 201) := r_iload (by decide +kernel)
theorem k_149_201 : Ok M149 201 (oLI 11 203) := r_iload (by decide +kernel)
theorem k_149_203 : Ok M149 203 (oS (gI2 f_iadd) 204) := r_iadd (by decide +kernel)
theorem k_149_204 : Ok M149 204 (oAI 205) := r_iaload (by decide +kernel)
theorem k_149_205 : Ok M149 205 (oAT 206) := r_iastore (by decide +kernel)
theorem k_149_206 : Ok M149 206 (oInc 11 1 12 209) := r_iinc (n := 1) (by decide +kernel) (by decide +kernel)
theorem k_149_209 : Ok M149 209 (oGo 183) := r_goto (off := (-26)) (by decide +kernel) (by decide +kernel)
theorem k_149_212 : Ok M149 212 (oInc 8 (-1) 12 215) := r_iinc (n := (-1)) (by decide +kernel) (by decide +kernel)
theorem k_149_215 : Ok M149 215 (oGo 98) := r_goto (off := (-117)) (by decide +kernel) (by decide +kernel)
theorem k_149_218 : Ok M149 218 (oRV) := r_return rfl (by decide +kernel)
def B149_0 : List (Nat × aO) := [(0, oLI 1 1), (1, oS (gKo (.int 1)) 2), (2, oLI 5 4), (4, oS (gI2 f_ishl) 5), (5, oS (gKo (.int (-1))) 6), (6, oS (gI2 f_ixor) 7), (7, oS (gI2 f_iand) 8), (8, oLI 3 9)]
theorem B149_0_ok : ∀ q ∈ B149_0, Ok M149 q.1 q.2 := List.forall_mem_cons.mpr ⟨k_149_0, List.forall_mem_cons.mpr ⟨k_149_1, List.forall_mem_cons.mpr ⟨k_149_2, List.forall_mem_cons.mpr ⟨k_149_4, List.forall_mem_cons.mpr ⟨k_149_5, List.forall_mem_cons.mpr ⟨k_149_6, List.forall_mem_cons.mpr ⟨k_149_7, List.forall_mem_cons.mpr ⟨k_149_8, fun _ h => absurd h List.not_mem_nil⟩⟩⟩⟩⟩⟩⟩⟩
def B149_1 : List (Nat × aO) := [(9, oCS 147 2), (12, oSI 6 12 14), (14, oS (gKo (.int 0)) 15), (15, oSI 7 12 17), (17, oLI 7 19), (19, oS (gKo (.int 4)) 20), (20, oB2 b_icmp_ge q_ge 66 23), (23, oLA 0 24)]
theorem B149_1_ok : ∀ q ∈ B149_1, Ok M149 q.1 q.2 := List.forall_mem_cons.mpr ⟨k_149_9, List.forall_mem_cons.mpr ⟨k_149_12, List.forall_mem_cons.mpr ⟨k_149_14, List.forall_mem_cons.mpr ⟨k_149_15, List.forall_mem_cons.mpr ⟨k_149_17, List.forall_mem_cons.mpr ⟨k_149_19, List.forall_mem_cons.mpr ⟨k_149_20, List.forall_mem_cons.mpr ⟨k_149_23, fun _ h => absurd h List.not_mem_nil⟩⟩⟩⟩⟩⟩⟩⟩
def B149_2 : List (Nat × aO) := [(24, oGe 5 18 27), (27, oLI 7 29), (29, oLA 0 30), (30, oGe 5 14 33), (33, oLI 6 35), (35, oLI 7 37), (37, oS (gI2 f_iadd) 38), (38, oAI 39)]
theorem B149_2_ok : ∀ q ∈ B149_2, Ok M149 q.1 q.2 := List.forall_mem_cons.mpr ⟨k_149_24, List.forall_mem_cons.mpr ⟨k_149_27, List.forall_mem_cons.mpr ⟨k_149_29, List.forall_mem_cons.mpr ⟨k_149_30, List.forall_mem_cons.mpr ⟨k_149_33, List.forall_mem_cons.mpr ⟨k_149_35, List.forall_mem_cons.mpr ⟨k_149_37, List.forall_mem_cons.mpr ⟨k_149_38, fun _ h => absurd h List.not_mem_nil⟩⟩⟩⟩⟩⟩⟩⟩
def B149_3 : List (Nat × aO) := [(39, oLI 7 41), (41, oLI 4 43), (43, oB2 b_icmp_ne q_ne 57 46), (46, oLA 0 47), (47, oLI 7 49), (49, oLI 5 51), (51, oCV 5 104 2), (54, oGo 58)]
theorem B149_3_ok : ∀ q ∈ B149_3, Ok M149 q.1 q.2 := List.forall_mem_cons.mpr ⟨k_149_39, List.forall_mem_cons.mpr ⟨k_149_41, List.forall_mem_cons.mpr ⟨k_149_43, List.forall_mem_cons.mpr ⟨k_149_46, List.forall_mem_cons.mpr ⟨k_149_47, List.forall_mem_cons.mpr ⟨k_149_49, List.forall_mem_cons.mpr ⟨k_149_51, List.forall_mem_cons.mpr ⟨k_149_54, fun _ h => absurd h List.not_mem_nil⟩⟩⟩⟩⟩⟩⟩⟩
def B149_4 : List (Nat × aO) := [(57, oS (gKo (.int 0)) 58), (58, oS (gI2 f_iadd) 59), (59, oAT 60), (60, oInc 7 1 12 63), (63, oGo 17), (66, oLA 0 67), (67, oS (gKo (.int (-1))) 68), (68, oPI 5 19 71)]
theorem B149_4_ok : ∀ q ∈ B149_4, Ok M149 q.1 q.2 := List.forall_mem_cons.mpr ⟨k_149_57, List.forall_mem_cons.mpr ⟨k_149_58, List.forall_mem_cons.mpr ⟨k_149_59, List.forall_mem_cons.mpr ⟨k_149_60, List.forall_mem_cons.mpr ⟨k_149_63, List.forall_mem_cons.mpr ⟨k_149_66, List.forall_mem_cons.mpr ⟨k_149_67, List.forall_mem_cons.mpr ⟨k_149_68, fun _ h => absurd h List.not_mem_nil⟩⟩⟩⟩⟩⟩⟩⟩
def B149_5 : List (Nat × aO) := [(71, oLI 1 72), (72, oLI 2 73), (73, oS (gKo (.int (-1))) 74), (74, oS (gI2 f_ixor) 75), (75, oS (gI2 f_iand) 76), (76, oS (gKo (.int 1)) 77), (77, oLI 5 79), (79, oS (gI2 f_ishl) 80)]
theorem B149_5_ok : ∀ q ∈ B149_5, Ok M149 q.1 q.2 := List.forall_mem_cons.mpr ⟨k_149_71, List.forall_mem_cons.mpr ⟨k_149_72, List.forall_mem_cons.mpr ⟨k_149_73, List.forall_mem_cons.mpr ⟨k_149_74, List.forall_mem_cons.mpr ⟨k_149_75, List.forall_mem_cons.mpr ⟨k_149_76, List.forall_mem_cons.mpr ⟨k_149_77, List.forall_mem_cons.mpr ⟨k_149_79, fun _ h => absurd h List.not_mem_nil⟩⟩⟩⟩⟩⟩⟩⟩
def B149_6 : List (Nat × aO) := [(80, oB2 b_icmp_ne q_ne 87 83), (83, oS (gKo (.int 1)) 84), (84, oGo 88), (87, oS (gKo (.int 0)) 88), (88, oSI 7 12 90), (90, oLA 0 91), (91, oGe 5 17 94), (94, oS (gKo (.int 1)) 95)]
theorem B149_6_ok : ∀ q ∈ B149_6, Ok M149 q.1 q.2 := List.forall_mem_cons.mpr ⟨k_149_80, List.forall_mem_cons.mpr ⟨k_149_83, List.forall_mem_cons.mpr ⟨k_149_84, List.forall_mem_cons.mpr ⟨k_149_87, List.forall_mem_cons.mpr ⟨k_149_88, List.forall_mem_cons.mpr ⟨k_149_90, List.forall_mem_cons.mpr ⟨k_149_91, List.forall_mem_cons.mpr ⟨k_149_94, fun _ h => absurd h List.not_mem_nil⟩⟩⟩⟩⟩⟩⟩⟩
def B149_7 : List (Nat × aO) := [(95, oS (gI2 f_isub) 96), (96, oSI 8 12 98), (98, oLI 8 100), (100, oB1 b_if_lt q_lt 218 103), (103, oLI 7 105), (105, oB1 b_if_ne q_ne 218 108), (108, oLA 0 109), (109, oGe 5 16 112)]
theorem B149_7_ok : ∀ q ∈ B149_7, Ok M149 q.1 q.2 := List.forall_mem_cons.mpr ⟨k_149_95, List.forall_mem_cons.mpr ⟨k_149_96, List.forall_mem_cons.mpr ⟨k_149_98, List.forall_mem_cons.mpr ⟨k_149_100, List.forall_mem_cons.mpr ⟨k_149_103, List.forall_mem_cons.mpr ⟨k_149_105, List.forall_mem_cons.mpr ⟨k_149_108, List.forall_mem_cons.mpr ⟨k_149_109, fun _ h => absurd h List.not_mem_nil⟩⟩⟩⟩⟩⟩⟩⟩
def B149_8 : List (Nat × aO) := [(112, oLI 8 114), (114, oAI 115), (115, oSI 9 12 117), (117, oLI 3 118), (118, oLI 9 120), (120, oCS 97 2), (123, oB1 b_if_eq q_eq 146 126), (126, oLI 2 127)]
theorem B149_8_ok : ∀ q ∈ B149_8, Ok M149 q.1 q.2 := List.forall_mem_cons.mpr ⟨k_149_112, List.forall_mem_cons.mpr ⟨k_149_114, List.forall_mem_cons.mpr ⟨k_149_115, List.forall_mem_cons.mpr ⟨k_149_117, List.forall_mem_cons.mpr ⟨k_149_118, List.forall_mem_cons.mpr ⟨k_149_120, List.forall_mem_cons.mpr ⟨k_149_123, List.forall_mem_cons.mpr ⟨k_149_126, fun _ h => absurd h List.not_mem_nil⟩⟩⟩⟩⟩⟩⟩⟩
def B149_9 : List (Nat × aO) := [(127, oS (gKo (.int 1)) 128), (128, oLI 5 130), (130, oS (gI2 f_ishl) 131), (131, oS (gI2 f_ior) 132), (132, oLI 3 133), (133, oS (gKo (.int 1)) 134), (134, oLI 9 136), (136, oS (gI2 f_ishl) 137)]
theorem B149_9_ok : ∀ q ∈ B149_9, Ok M149 q.1 q.2 := List.forall_mem_cons.mpr ⟨k_149_127, List.forall_mem_cons.mpr ⟨k_149_128, List.forall_mem_cons.mpr ⟨k_149_130, List.forall_mem_cons.mpr ⟨k_149_131, List.forall_mem_cons.mpr ⟨k_149_132, List.forall_mem_cons.mpr ⟨k_149_133, List.forall_mem_cons.mpr ⟨k_149_134, List.forall_mem_cons.mpr ⟨k_149_136, fun _ h => absurd h List.not_mem_nil⟩⟩⟩⟩⟩⟩⟩⟩
def B149_10 : List (Nat × aO) := [(137, oS (gKo (.int (-1))) 138), (138, oS (gI2 f_ixor) 139), (139, oS (gI2 f_iand) 140), (140, oCS 147 2), (143, oGo 147), (146, oS (gKo (.int (-1))) 147), (147, oSI 10 12 149), (149, oLI 10 151)]
theorem B149_10_ok : ∀ q ∈ B149_10, Ok M149 q.1 q.2 := List.forall_mem_cons.mpr ⟨k_149_137, List.forall_mem_cons.mpr ⟨k_149_138, List.forall_mem_cons.mpr ⟨k_149_139, List.forall_mem_cons.mpr ⟨k_149_140, List.forall_mem_cons.mpr ⟨k_149_143, List.forall_mem_cons.mpr ⟨k_149_146, List.forall_mem_cons.mpr ⟨k_149_147, List.forall_mem_cons.mpr ⟨k_149_149, fun _ h => absurd h List.not_mem_nil⟩⟩⟩⟩⟩⟩⟩⟩
def B149_11 : List (Nat × aO) := [(151, oB1 b_if_lt q_lt 212 154), (154, oLA 0 155), (155, oGe 5 15 158), (158, oLI 10 160), (160, oLI 9 162), (162, oS (gI2 f_iadd) 163), (163, oAI 164), (164, oLA 0 165)]
theorem B149_11_ok : ∀ q ∈ B149_11, Ok M149 q.1 q.2 := List.forall_mem_cons.mpr ⟨k_149_151, List.forall_mem_cons.mpr ⟨k_149_154, List.forall_mem_cons.mpr ⟨k_149_155, List.forall_mem_cons.mpr ⟨k_149_158, List.forall_mem_cons.mpr ⟨k_149_160, List.forall_mem_cons.mpr ⟨k_149_162, List.forall_mem_cons.mpr ⟨k_149_163, List.forall_mem_cons.mpr ⟨k_149_164, fun _ h => absurd h List.not_mem_nil⟩⟩⟩⟩⟩⟩⟩⟩
def B149_12 : List (Nat × aO) := [(165, oGe 5 18 168), (168, oLI 9 170), (170, oAI 171), (171, oB2 b_icmp_le q_le 212 174), (174, oLA 0 175), (175, oLI 9 177), (177, oPI 5 19 180), (180, oS (gKo (.int 0)) 181)]
theorem B149_12_ok : ∀ q ∈ B149_12, Ok M149 q.1 q.2 := List.forall_mem_cons.mpr ⟨k_149_165, List.forall_mem_cons.mpr ⟨k_149_168, List.forall_mem_cons.mpr ⟨k_149_170, List.forall_mem_cons.mpr ⟨k_149_171, List.forall_mem_cons.mpr ⟨k_149_174, List.forall_mem_cons.mpr ⟨k_149_175, List.forall_mem_cons.mpr ⟨k_149_177, List.forall_mem_cons.mpr ⟨k_149_180, fun _ h => absurd h List.not_mem_nil⟩⟩⟩⟩⟩⟩⟩⟩
def B149_13 : List (Nat × aO) := [(181, oSI 11 12 183), (183, oLI 11 185), (185, oS (gKo (.int 4)) 186), (186, oB2 b_icmp_ge q_ge 212 189), (189, oLA 0 190), (190, oGe 5 18 193), (193, oLI 11 195), (195, oLA 0 196)]
theorem B149_13_ok : ∀ q ∈ B149_13, Ok M149 q.1 q.2 := List.forall_mem_cons.mpr ⟨k_149_181, List.forall_mem_cons.mpr ⟨k_149_183, List.forall_mem_cons.mpr ⟨k_149_185, List.forall_mem_cons.mpr ⟨k_149_186, List.forall_mem_cons.mpr ⟨k_149_189, List.forall_mem_cons.mpr ⟨k_149_190, List.forall_mem_cons.mpr ⟨k_149_193, List.forall_mem_cons.mpr ⟨k_149_195, fun _ h => absurd h List.not_mem_nil⟩⟩⟩⟩⟩⟩⟩⟩
def B149_14 : List (Nat × aO) := [(196, oGe 5 15 199), (199, oLI 10 201), (201, oLI 11 203), (203, oS (gI2 f_iadd) 204), (204, oAI 205), (205, oAT 206), (206, oInc 11 1 12 209), (209, oGo 183)]
theorem B149_14_ok : ∀ q ∈ B149_14, Ok M149 q.1 q.2 := List.forall_mem_cons.mpr ⟨k_149_196, List.forall_mem_cons.mpr ⟨k_149_199, List.forall_mem_cons.mpr ⟨k_149_201, List.forall_mem_cons.mpr ⟨k_149_203, List.forall_mem_cons.mpr ⟨k_149_204, List.forall_mem_cons.mpr ⟨k_149_205, List.forall_mem_cons.mpr ⟨k_149_206, List.forall_mem_cons.mpr ⟨k_149_209, fun _ h => absurd h List.not_mem_nil⟩⟩⟩⟩⟩⟩⟩⟩
def B149_15 : List (Nat × aO) := [(212, oInc 8 (-1) 12 215), (215, oGo 98), (218, oRV)]
theorem B149_15_ok : ∀ q ∈ B149_15, Ok M149 q.1 q.2 := List.forall_mem_cons.mpr ⟨k_149_212, List.forall_mem_cons.mpr ⟨k_149_215, List.forall_mem_cons.mpr ⟨k_149_218, fun _ h => absurd h List.not_mem_nil⟩⟩⟩
def P149 : List (Nat × List (Nat × aO)) := [(8, B149_0), (23, B149_1), (38, B149_2), (54, B149_3), (68, B149_4), (79, B149_5), (94, B149_6), (109, B149_7), (126, B149_8), (136, B149_9), (149, B149_10), (164, B149_11), (180, B149_12), (195, B149_13), (209, B149_14), (218, B149_15)]
theorem P149_ok : ∀ b ∈ P149, ∀ q ∈ b.2, Ok M149 q.1 q.2 := List.forall_mem_cons.mpr ⟨B149_0_ok, List.forall_mem_cons.mpr ⟨B149_1_ok, List.forall_mem_cons.mpr ⟨B149_2_ok, List.forall_mem_cons.mpr ⟨B149_3_ok, List.forall_mem_cons.mpr ⟨B149_4_ok, List.forall_mem_cons.mpr ⟨B149_5_ok, List.forall_mem_cons.mpr ⟨B149_6_ok, List.forall_mem_cons.mpr ⟨B149_7_ok, List.forall_mem_cons.mpr ⟨B149_8_ok, List.forall_mem_cons.mpr ⟨B149_9_ok, List.forall_mem_cons.mpr ⟨B149_10_ok, List.forall_mem_cons.mpr ⟨B149_11_ok, List.forall_mem_cons.mpr ⟨B149_12_ok, List.forall_mem_cons.mpr ⟨B149_13_ok, List.forall_mem_cons.mpr ⟨B149_14_ok, List.forall_mem_cons.mpr ⟨B149_15_ok, fun _ h => absurd h List.not_mem_nil⟩⟩⟩⟩⟩⟩⟩⟩⟩⟩⟩⟩⟩⟩⟩⟩
theorem k_150_0 : Ok M150 0 (oS (gKo (.int (-1))) 1) := r_iconst (n := (-1)) (by decide +kernel) (by decide +kernel)
theorem k_150_1 : Ok M150 1 (oSI 5 9 3) := r_istore (by decide +kernel)
theorem k_150_3 : Ok M150 3 (oS (gKo (.int 0)) 4) := r_iconst (n := 0) (by decide +kernel) (by decide +kernel)
theorem k_150_4 : Ok M150 4 (oSI 6 9 6) := r_istore (by decide +kernel)
theorem k_150_6 : Ok M150 6 (oS (gKo (.int 0)) 7) := r_iconst (n := 0) (by decide +kernel) (by decide +kernel)
theorem k_150_7 : Ok M150 7 (oSI 7 9 9) := r_istore (by decide +kernel)
theorem k_150_9 : Ok M150 9 (oLI 7 11) := r_iload (by decide +kernel)
theorem k_150_11 : Ok M150 11 (oS (gKo (.int 6)) 13) := r_bipush (n := 6) (by decide +kernel) (by decide +kernel)
theorem k_150_13 : Ok M150 13 (oB2 b_icmp_ge q_ge 104 16) := r_icmp_ge (off := 91) (by decide +kernel) (by decide +kernel)
theorem k_150_16 : Ok M150 16 (oLI 1 17) := r_iload_n (j := 1) (by decide +kernel) rfl
theorem k_150_17 : Ok M150 17 (oLI 2 18) := r_iload_n (j := 2) (by decide +kernel) rfl
theorem k_150_18 : Ok M150 18 (oS (gKo (.int (-1))) 19) := r_iconst (n := (-1)) (by decide +kernel) (by decide +kernel)
theorem k_150_19 : Ok M150 19 (oS (gI2 f_ixor) 20) := r_ixor (by decide +kernel)
theorem k_150_20 : Ok M150 20 (oS (gI2 f_iand) 21) := r_iand (by decide +kernel)
theorem k_150_21 : Ok M150 21 (oLI 7 23) := r_iload (by decide +kernel)
theorem k_150_23 : Ok M150 23 (oCS 97 2) := r_callS (idx := 92) (by decide +kernel) w_799 cs_97
theorem k_150_26 : Ok M150 26 (oB1 b_if_eq q_eq 98 29) := r_if_eq (off := 72) (by decide +kernel) (by decide +kernel)
theorem k_150_29 : Ok M150 29 (oLA 0 30) := r_aload_n (j := 0) (by decide +kernel) rfl
theorem k_150_30 : Ok M150 30 (oLI 1 31) := r_iload_n (j := 1) (by decide +kernel) rfl
theorem k_150_31 : Ok M150 31 (oLI 2 32) := r_iload_n (j := 2) (by decide +kernel) rfl
theorem k_150_32 : Ok M150 32 (oLI 3 33) := r_iload_n (j := 3) (by decide +kernel) rfl
theorem k_150_33 : Ok M150 33 (oLI 4 35) := r_iload (by decide +kernel)
theorem k_150_35 : Ok M150 35 (oLI 7 37) := r_iload (by decide +kernel)
theorem k_150_37 : Ok M150 37 (oCV 5 149 5) := r_callV (idx := 209) (by decide +kernel) w_978 cv_149
theorem k_150_40 : Ok M150 40 (oLI 5 42) := r_iload (by decide +kernel)
theorem k_150_42 : Ok M150 42 (oS (gKo (.int (-1))) 43) := r_iconst (n := (-1)) (by decide +kernel) (by decide +kernel)
theorem k_150_43 : Ok M150 43 (oB2 b_icmp_eq q_eq 58 46) := r_icmp_eq (off := 15) (by decide +kernel) (by decide +kernel)
theorem k_150_46 : Ok M150 46 (oLA 0 47) := r_aload_n (j := 0) (by decide +kernel) rfl
theorem k_150_47 : Ok M150 47 (oGe 5 18 50) := r_get (idx := 37) (by decide +kernel) cd_5 18 (by decide) w_696 rfl
theorem k_150_50 : Ok M150 50 (oLI 4 52) := r_iload (by decide +kernel)
theorem k_150_52 : Ok M150 52 (oAI 53) := r_iaload (by decide +kernel)
theorem k_150_53 : Ok M150 53 (oLI 6 55) := r_iload (by decide +kernel)
theorem k_150_55 : Ok M150 55 (oB2 b_icmp_le q_le 62 58) := r_icmp_le (off := 7) (by decide +kernel) (by decide +kernel)
theorem k_150_58 : Ok M150 58 (oS (gKo (.int 1)) 59) := r_iconst (n := 1) (by decide +kernel) (by decide +kernel)
theorem k_150_59 : Ok M150 59 (oGo 63) := r_goto (off := 4) (by decide +kernel) (by decide +kernel)
theorem k_150_62 : Ok M150 62 (oS (gKo (.int 0)) 63) := r_iconst (n := 0) (by decide +kernel) (by decide +kernel)
theorem k_150_63 : Ok M150 63 (oSI 8 9 65) := r_istore (by decide +kernel)
theorem k_150_65 : Ok M150 65 (oLI 8 67) := r_iload (by decide +kernel)
theorem k_150_67 : Ok M150 67 (oB1 b_if_eq q_eq 80 70) := r_if_eq (off := 13) (by decide +kernel) (by decide +kernel)
theorem k_150_70 : Ok M150 70 (oLA 0 71) := r_aload_n (j := 0) (by decide +kernel) rfl
theorem k_150_71 : Ok M150 71 (oGe 5 18 74) := r_get (idx := 37) (by decide +kernel) cd_5 18 (by decide) w_696 rfl
theorem k_150_74 : Ok M150 74 (oLI 4 76) := r_iload (by decide +kernel)
theorem k_150_76 : Ok M150 76 (oAI 77) := r_iaload (by decide +kernel)
theorem k_150_77 : Ok M150 77 (oGo 82) := r_goto (off := 5) (by decide +kernel) (by decide +kernel)
theorem k_150_80 : Ok M150 80 (oLI 6 82) := r_iload (by decide +kernel)
theorem k_150_82 : Ok M150 82 (oSI 6 9 84) := r_istore (by decide +kernel)
theorem k_150_84 : Ok M150 84 (oLI 8 86) := r_iload (by decide +kernel)
theorem k_150_86 : Ok M150 86 (oB1 b_if_eq q_eq 94 89) := r_if_eq (off := 8) (by decide +kernel) (by decide +kernel)
theorem k_150_89 : Ok M150 89 (oLI 7 91) := r_iload (by decide +kernel)
theorem k_150_91 : Ok M150 91 (oGo 96) := r_goto (off := 5) (by decide +kernel) (by decide +kernel)
theorem k_150_94 : Ok M150 94 (oLI 5 96) := r_iload (by decide +kernel)
theorem k_150_96 : Ok M150 96 (oSI 5 9 98) := r_istore (by decide +kernel)
theorem k_150_98 : Ok M150 98 (oInc 7 1 9 101) := r_iinc (n := 1) (by decide +kernel) (by decide +kernel)
theorem k_150_101 : Ok M150 101 (oGo 9) := r_goto (off := (-92)) (by decide +kernel) (by decide +kernel)
theorem k_150_104 : Ok M150 104 (oLI 5 106) := r_iload (by decide +kernel)
theorem k_150_106 : Ok M150 106 (oRI) := r_ireturn rfl (by decide +kernel)
def B150_0 : List (Nat × aO) := [(0, oS (gKo (.int (-1))) 1), (1, oSI 5 9 3), (3, oS (gKo (.int 0)) 4), (4, oSI 6 9 6), (6, oS (gKo (.int 0)) 7), (7, oSI 7 9 9), (9, oLI 7 11), (11, oS (gKo (.int 6)) 13)]
theorem B150_0_ok : ∀ q ∈ B150_0, Ok M150 q.1 q.2 := List.forall_mem_cons.mpr ⟨k_150_0, List.forall_mem_cons.mpr ⟨k_150_1, List.forall_mem_cons.mpr ⟨k_150_3, List.forall_mem_cons.mpr ⟨k_150_4, List.forall_mem_cons.mpr ⟨k_150_6, List.forall_mem_cons.mpr ⟨k_150_7, List.forall_mem_cons.mpr ⟨k_150_9, List.forall_mem_cons.mpr ⟨k_150_11, fun _ h => absurd h List.not_mem_nil⟩⟩⟩⟩⟩⟩⟩⟩
def B150_1 : List (Nat × aO) := [(13, oB2 b_icmp_ge q_ge 104 16), (16, oLI 1 17), (17, oLI 2 18), (18, oS (gKo (.int (-1))) 19), (19, oS (gI2 f_ixor) 20), (20, oS (gI2 f_iand) 21), (21, oLI 7 23), (23, oCS 97 2)]
theorem B150_1_ok : ∀ q ∈ B150_1, Ok M150 q.1 q.2 := List.forall_mem_cons.mpr ⟨k_150_13, List.forall_mem_cons.mpr ⟨k_150_16, List.forall_mem_cons.mpr ⟨k_150_17, List.forall_mem_cons.mpr ⟨k_150_18, List.forall_mem_cons.mpr ⟨k_150_19, List.forall_mem_cons.mpr ⟨k_150_20, List.forall_mem_cons.mpr ⟨k_150_21, List.forall_mem_cons.mpr ⟨k_150_23, fun _ h => absurd h List.not_mem_nil⟩⟩⟩⟩⟩⟩⟩⟩
def B150_2 : List (Nat × aO) := [(26, oB1 b_if_eq q_eq 98 29), (29, oLA 0 30), (30, oLI 1 31), (31, oLI 2 32), (32, oLI 3 33), (33, oLI 4 35), (35, oLI 7 37), (37, oCV 5 149 5)]
theorem B150_2_ok : ∀ q ∈ B150_2, Ok M150 q.1 q.2 := List.forall_mem_cons.mpr ⟨k_150_26, List.forall_mem_cons.mpr ⟨k_150_29, List.forall_mem_cons.mpr ⟨k_150_30, List.forall_mem_cons.mpr ⟨k_150_31, List.forall_mem_cons.mpr ⟨k_150_32, List.forall_mem_cons.mpr ⟨k_150_33, List.forall_mem_cons.mpr ⟨k_150_35, List.forall_mem_cons.mpr ⟨k_150_37, fun _ h => absurd h List.not_mem_nil⟩⟩⟩⟩⟩⟩⟩⟩
def B150_3 : List (Nat × aO) := [(40, oLI 5 42), (42, oS (gKo (.int (-1))) 43), (43, oB2 b_icmp_eq q_eq 58 46), (46, oLA 0 47), (47, oGe 5 18 50), (50, oLI 4 52), (52, oAI 53), (53, oLI 6 55)]
theorem B150_3_ok : ∀ q ∈ B150_3, Ok M150 q.1 q.2 := List.forall_mem_cons.mpr ⟨k_150_40, List.forall_mem_cons.mpr ⟨k_150_42, List.forall_mem_cons.mpr ⟨k_150_43, List.forall_mem_cons.mpr ⟨k_150_46, List.forall_mem_cons.mpr ⟨k_150_47, List.forall_mem_cons.mpr ⟨k_150_50, List.forall_mem_cons.mpr ⟨k_150_52, List.forall_mem_cons.mpr ⟨k_150_53, fun _ h => absurd h List.not_mem_nil⟩⟩⟩⟩⟩⟩⟩⟩
def B150_4 : List (Nat × aO) := [(55, oB2 b_icmp_le q_le 62 58), (58, oS (gKo (.int 1)) 59), (59, oGo 63), (62, oS (gKo (.int 0)) 63), (63, oSI 8 9 65), (65, oLI 8 67), (67, oB1 b_if_eq q_eq 80 70), (70, oLA 0 71)]
theorem B150_4_ok : ∀ q ∈ B150_4, Ok M150 q.1 q.2 := List.forall_mem_cons.mpr ⟨k_150_55, List.forall_mem_cons.mpr ⟨k_150_58, List.forall_mem_cons.mpr ⟨k_150_59, List.forall_mem_cons.mpr ⟨k_150_62, List.forall_mem_cons.mpr ⟨k_150_63, List.forall_mem_cons.mpr ⟨k_150_65, List.forall_mem_cons.mpr ⟨k_150_67, List.forall_mem_cons.mpr ⟨k_150_70, fun _ h => absurd h List.not_mem_nil⟩⟩⟩⟩⟩⟩⟩⟩
def B150_5 : List (Nat × aO) := [(71, oGe 5 18 74), (74, oLI 4 76), (76, oAI 77), (77, oGo 82), (80, oLI 6 82), (82, oSI 6 9 84), (84, oLI 8 86), (86, oB1 b_if_eq q_eq 94 89)]
theorem B150_5_ok : ∀ q ∈ B150_5, Ok M150 q.1 q.2 := List.forall_mem_cons.mpr ⟨k_150_71, List.forall_mem_cons.mpr ⟨k_150_74, List.forall_mem_cons.mpr ⟨k_150_76, List.forall_mem_cons.mpr ⟨k_150_77, List.forall_mem_cons.mpr ⟨k_150_80, List.forall_mem_cons.mpr ⟨k_150_82, List.forall_mem_cons.mpr ⟨k_150_84, List.forall_mem_cons.mpr ⟨k_150_86, fun _ h => absurd h List.not_mem_nil⟩⟩⟩⟩⟩⟩⟩⟩
def B150_6 : List (Nat × aO) := [(89, oLI 7 91), (91, oGo 96), (94, oLI 5 96), (96, oSI 5 9 98), (98, oInc 7 1 9 101), (101, oGo 9), (104, oLI 5 106), (106, oRI)]
theorem B150_6_ok : ∀ q ∈ B150_6, Ok M150 q.1 q.2 := List.forall_mem_cons.mpr ⟨k_150_89, List.forall_mem_cons.mpr ⟨k_150_91, List.forall_mem_cons.mpr ⟨k_150_94, List.forall_mem_cons.mpr ⟨k_150_96, List.forall_mem_cons.mpr ⟨k_150_98, List.forall_mem_cons.mpr ⟨k_150_101, List.forall_mem_cons.mpr ⟨k_150_104, List.forall_mem_cons.mpr ⟨k_150_106, fun _ h => absurd h List.not_mem_nil⟩⟩⟩⟩⟩⟩⟩⟩
def P150 : List (Nat × List (Nat × aO)) := [(11, B150_0), (23, B150_1), (37, B150_2), (53, B150_3), (70, B150_4), (86, B150_5), (106, B150_6)]
theorem P150_ok : ∀ b ∈ P150, ∀ q ∈ b.2, Ok M150 q.1 q.2 := List.forall_mem_cons.mpr ⟨B150_0_ok, List.forall_mem_cons.mpr ⟨B150_1_ok, List.forall_mem_cons.mpr ⟨B150_2_ok, List.forall_mem_cons.mpr ⟨B150_3_ok, List.forall_mem_cons.mpr ⟨B150_4_ok, List.forall_mem_cons.mpr ⟨B150_5_ok, List.forall_mem_cons.mpr ⟨B150_6_ok, fun _ h => absurd h List.not_mem_nil⟩⟩⟩⟩⟩⟩⟩
theorem k_151_0 : Ok M151 0 (oLA 0 1) := r_aload_n (j := 0) (by decide +kernel) rfl
theorem k_151_1 : Ok M151 1 (oCV 5 125 0) := r_callV (idx := 149) (by decide +kernel) w_840 cv_125
theorem k_151_4 : Ok M151 4 (oLA 0 5) := r_aload_n (j := 0) (by decide +kernel) rfl
theorem k_151_5 : Ok M151 5 (oGe 5 12 8) := r_get (idx := 22) (by decide +kernel) cd_5 12 (by decide) w_690 rfl
theorem k_151_8 : Ok M151 8 (oLA 0 9) := r_aload_n (j := 0) (by decide +kernel) rfl
theorem k_151_9 : Ok M151 9 (oGe 5 0 12) := r_get (idx := 7) (by decide +kernel) cd_5 0 (by decide) w_678 rfl
theorem k_151_12 : Ok M151 12 (oS (gKo (.int 0)) 13) := r_iconst (n := 0) (by decide +kernel) (by decide +kernel)
theorem k_151_13 : Ok M151 13 (oAI 14) := r_iaload (by decide +kernel)
theorem k_151_14 : Ok M151 14 (oLI 1 15) := r_iload_n (j := 1) (by decide +kernel) rfl
theorem k_151_15 : Ok M151 15 (oCS 98 1) := r_callS (idx := 213) (by decide +kernel) w_967 cs_98
theorem k_151_18 : Ok M151 18 (oS (gI2 f_isub) 19) := r_isub (by decide +kernel)
theorem k_151_19 : Ok M151 19 (oAI 20) := r_iaload (by decide +kernel)
theorem k_151_20 : Ok M151 20 (oSI 2 7 21) := r_istore_n (j := 2) (by decide +kernel) rfl
theorem k_151_21 : Ok M151 21 (oLA 0 22) := r_aload_n (j := 0) (by decide +kernel) rfl
theorem k_151_22 : Ok M151 22 (oLI 2 23) := r_iload_n (j := 2) (by decide +kernel) rfl
theorem k_151_23 : Ok M151 23 (oCV 5 148 1) := r_callV (idx := 216) (by decide +kernel) w_970 cv_148
theorem k_151_26 : Ok M151 26 (oS (gKo (.int 0)) 27) := r_iconst (n := 0) (by decide +kernel) (by decide +kernel)
theorem k_151_27 : Ok M151 27 (oSI 3 7 28) := r_istore_n (j := 3) (by decide +kernel) rfl
theorem k_151_28 : Ok M151 28 (oLI 3 29) := r_iload_n (j := 3) (by decide +kernel) rfl
theorem k_151_29 : Ok M151 29 (oS (gKo (.int 16)) 31) := r_bipush (n := 16) (by decide +kernel) (by decide +kernel)
theorem k_151_31 : Ok M151 31 (oB2 b_icmp_ge q_ge 129 34) := r_icmp_ge (off := 98) (by decide +kernel) (by decide +kernel)
theorem k_151_34 : Ok M151 34 (oS (gKo (.int 0)) 35) := r_iconst (n := 0) (by decide +kernel) (by decide +kernel)
theorem k_151_35 : Ok M151 35 (oSI 4 7 37) := r_istore (by decide +kernel)
theorem k_151_37 : Ok M151 37 (oLI 4 39) := r_iload (by decide +kernel)
theorem k_151_39 : Ok M151 39 (oS (gKo (.int 64)) 41) := r_bipush (n := 64) (by decide +kernel) (by decide +kernel)
theorem k_151_41 : Ok M151 41 (oB2 b_icmp_ge q_ge 123 44) := r_icmp_ge (off := 82) (by decide +kernel) (by decide +kernel)
theorem k_151_44 : Ok M151 44 (oLI 4 46) := r_iload (by decide +kernel)
theorem k_151_46 : Ok M151 46 (oLI 1 47) := r_iload_n (j := 1) (by decide +kernel) rfl
theorem k_151_47 : Ok M151 47 (oS (gKo (.int (-1))) 48) := r_iconst (n := (-1)) (by decide +kernel) (by decide +kernel)
theorem k_151_48 : Ok M151 48 (oS (gI2 f_ixor) 49) := r_ixor (by decide +kernel)
theorem k_151_49 : Ok M151 49 (oS (gI2 f_iand) 50) := r_iand (by decide +kernel)
theorem k_151_50 : Ok M151 50 (oB1 b_if_ne q_ne 117 53) := r_if_ne (off := 67) (by decide +kernel) (by decide +kernel)
theorem k_151_53 : Ok M151 53 (oLI 4 55) := r_iload (by decide +kernel)
theorem k_151_55 : Ok M151 55 (oLI 1 56) := r_iload_n (j := 1) (by decide +kernel) rfl
theorem k_151_56 : Ok M151 56 (oB2 b_icmp_eq q_eq 117 59) := r_icmp_eq (off := 61) (by decide +kernel) (by decide +kernel)
theorem k_151_59 : Ok M151 59 (oLA 0 60) := r_aload_n (j := 0) (by decide +kernel) rfl
theorem k_151_60 : Ok M151 60 (oLI 1 61) := r_iload_n (j := 1) (by decide +kernel) rfl
theorem k_151_61 : Ok M151 61 (oLI 4 63) := r_iload (by decide +kernel)
theorem k_151_63 : Ok M151 63 (oLI 3 64) := r_iload_n (j := 3) (by decide +kernel) rfl
theorem k_151_64 : Ok M151 64 (oLI 2 65) := r_iload_n (j := 2) (by decide +kernel) rfl
theorem k_151_65 : Ok M151 65 (oCV 5 150 4) := r_callV (idx := 220) (by decide +kernel) w_974 cv_150
theorem k_151_68 : Ok M151 68 (oSI 5 7 70) := r_istore (by decide +kernel)
theorem k_151_70 : Ok M151 70 (oLA 0 71) := r_aload_n (j := 0) (by decide +kernel) rfl
theorem k_151_71 : Ok M151 71 (oLI 1 72) := r_iload_n (j := 1) (by decide +kernel) rfl
theorem k_151_72 : Ok M151 72 (oLI 4 74) := r_iload (by decide +kernel)
theorem k_151_74 : Ok M151 74 (oLI 3 75) := r_iload_n (j := 3) (by decide +kernel) rfl
theorem k_151_75 : Ok M151 75 (oLI 2 76) := r_iload_n (j := 2) (by decide +kernel) rfl
theorem k_151_76 : Ok M151 76 (oLI 5 78) := r_iload (by decide +kernel)
theorem k_151_78 : Ok M151 78 (oCV 5 149 5) := r_callV (idx := 209) (by decide +kernel) w_978 cv_149
theorem k_151_81 : Ok M151 81 (oS (gKo (.int 0)) 82) := r_iconst (n := 0) (by decide +kernel) (by decide +kernel)
theorem k_151_82 : Ok M151 82 (oSI 6 7 84) := r_istore (by decide +kernel)
theorem k_151_84 : Ok M151 84 (oLI 6 86) := r_iload (by decide +kernel)
theorem k_151_86 : Ok M151 86 (oS (gKo (.int 4)) 87) := r_iconst (n := 4) (by decide +kernel) (by decide +kernel)
theorem k_151_87 : Ok M151 87 (oB2 b_icmp_ge q_ge 117 90) := r_icmp_ge (off := 30) (by decide +kernel) (by decide +kernel)
theorem k_151_90 : Ok M151 90 (oLA 0 91) := r_aload_n (j := 0) (by decide +kernel) rfl
theorem k_151_91 : Ok M151 91 (oGe 5 15 94) := r_get (idx := 31) (by decide +kernel) cd_5 15 (by decide) w_693 rfl
theorem k_151_94 : Ok M151 94 (oLI 4 96) := r_iload (by decide +kernel)
theorem k_151_96 : Ok M151 96 (oLI 3 97) := r_iload_n (j := 3) (by decide +kernel) rfl
theorem k_151_97 : Ok M151 97 (oCS 147 2) := r_callS (idx := 203) (by decide +kernel) w_982 cs_147
theorem k_151_100 : Ok M151 100 (oLI 6 102) := r_iload (by decide +kernel)
theorem k_151_102 : Ok M151 102 (oS (gI2 f_iadd) 103) := r_iadd (by decide +kernel)
theorem k_151_103 : Ok M151 103 (oLA 0 104) := r_aload_n (j := 0) (by decide +kernel) rfl
theorem k_151_104 : Ok M151 104 (oGe 5 18 107) := r_get (idx := 37) (by decide +kernel) cd_5 18 (by decide) w_696 rfl
theorem k_151_107 : Ok M151 107 (oLI 6 109) := r_iload (by decide +kernel)
theorem k_151_109 : Ok M151 109 (oAI 110) := r_iaload (by decide +kernel)
theorem k_151_110 : Ok M151 110 (oAT 111) := r_iastore (by decide +kernel)
theorem k_151_111 : Ok M151 111 (oInc 6 1 7 114) := r_iinc (n := 1) (by decide +kernel) (by decide +kernel)
theorem k_151_114 : Ok M151 114 (oGo 84) := r_goto (off := (-30)) (by decide +kernel) (by decide +kernel)
theorem k_151_117 : Ok M151 117 (oInc 4 1 7 120) := r_iinc (n := 1) (by decide +kernel) (by decide +kernel)
theorem k_151_120 : Ok M151 120 (oGo 37) := r_goto (off := (-83)) (by decide +kernel) (by decide +kernel)
theorem k_151_123 : Ok M151 123 (oInc 3 1 7 126) := r_iinc (n := 1) (by decide +kernel) (by decide +kernel)
theorem k_151_126 : Ok M151 126 (oGo 28) := r_goto (off := (-98)) (by decide +kernel) (by decide +kernel)
theorem k_151_129 : Ok M151 129 (oRV) := r_return rfl (by decide +kernel)
def B151_0 : List (Nat × aO) := [(0, oLA 0 1), (1, oCV 5 125 0), (4, oLA 0 5), (5, oGe 5 12 8), (8, oLA 0 9), (9, oGe 5 0 12), (12, oS (gKo (.int 0)) 13), (13, oAI 14)]
theorem B151_0_ok : ∀ q ∈ B151_0, Ok M151 q.1 q.2 := List.forall_mem_cons.mpr ⟨k_151_0, List.forall_mem_cons.mpr ⟨k_151_1, List.forall_mem_cons.mpr ⟨k_151_4, List.forall_mem_cons.mpr ⟨k_151_5, List.forall_mem_cons.mpr ⟨k_151_8, List.forall_mem_cons.mpr ⟨k_151_9, List.forall_mem_cons.mpr ⟨k_151_12, List.forall_mem_cons.mpr ⟨k_151_13, fun _ h => absurd h List.not_mem_nil⟩⟩⟩⟩⟩⟩⟩⟩
def B151_1 : List (Nat × aO) := [(14, oLI 1 15), (15, oCS 98 1), (18, oS (gI2 f_isub) 19), (19, oAI 20), (20, oSI 2 7 21), (21, oLA 0 22), (22, oLI 2 23), (23, oCV 5 148 1)]
theorem B151_1_ok : ∀ q ∈ B151_1, Ok M151 q.1 q.2 := List.forall_mem_cons.mpr ⟨k_151_14, List.forall_mem_cons.mpr ⟨k_151_15, List.forall_mem_cons.mpr ⟨k_151_18, List.forall_mem_cons.mpr ⟨k_151_19, List.forall_mem_cons.mpr ⟨k_151_20, List.forall_mem_cons.mpr ⟨k_151_21, List.forall_mem_cons.mpr ⟨k_151_22, List.forall_mem_cons.mpr ⟨k_151_23, fun _ h => absurd h List.not_mem_nil⟩⟩⟩⟩⟩⟩⟩⟩
def B151_2 : List (Nat × aO) := [(26, oS (gKo (.int 0)) 27), (27, oSI 3 7 28), (28, oLI 3 29), (29, oS (gKo (.int 16)) 31), (31, oB2 b_icmp_ge q_ge 129 34), (34, oS (gKo (.int 0)) 35), (35, oSI 4 7 37), (37, oLI 4 39)]
theorem B151_2_ok : ∀ q ∈ B151_2, Ok M151 q.1 q.2 := List.forall_mem_cons.mpr ⟨k_151_26, List.forall_mem_cons.mpr ⟨k_151_27, List.forall_mem_cons.mpr ⟨k_151_28, List.forall_mem_cons.mpr ⟨k_151_29, List.forall_mem_cons.mpr ⟨k_151_31, List.forall_mem_cons.mpr ⟨k_151_34, List.forall_mem_cons.mpr ⟨k_151_35, List.forall_mem_cons.mpr ⟨k_151_37, fun _ h => absurd h List.not_mem_nil⟩⟩⟩⟩⟩⟩⟩⟩
def B151_3 : List (Nat × aO) := [(39, oS (gKo (.int 64)) 41), (41, oB2 b_icmp_ge q_ge 123 44), (44, oLI 4 46), (46, oLI 1 47), (47, oS (gKo (.int (-1))) 48), (48, oS (gI2 f_ixor) 49), (49, oS (gI2 f_iand) 50), (50, oB1 b_if_ne q_ne 117 53)]
theorem B151_3_ok : ∀ q ∈ B151_3, Ok M151 q.1 q.2 := List.forall_mem_cons.mpr ⟨k_151_39, List.forall_mem_cons.mpr ⟨k_151_41, List.forall_mem_cons.mpr ⟨k_151_44, List.forall_mem_cons.mpr ⟨k_151_46, List.forall_mem_cons.mpr ⟨k_151_47, List.forall_mem_cons.mpr ⟨k_151_48, List.forall_mem_cons.mpr ⟨k_151_49, List.forall_mem_cons.mpr ⟨k_151_50, fun _ h => absurd h List.not_mem_nil⟩⟩⟩⟩⟩⟩⟩⟩
def B151_4 : List (Nat × aO) := [(53, oLI 4 55), (55, oLI 1 56), (56, oB2 b_icmp_eq q_eq 117 59), (59, oLA 0 60), (60, oLI 1 61), (61, oLI 4 63), (63, oLI 3 64), (64, oLI 2 65)]
theorem B151_4_ok : ∀ q ∈ B151_4, Ok M151 q.1 q.2 := List.forall_mem_cons.mpr ⟨k_151_53, List.forall_mem_cons.mpr ⟨k_151_55, List.forall_mem_cons.mpr ⟨k_151_56, List.forall_mem_cons.mpr ⟨k_151_59, List.forall_mem_cons.mpr ⟨k_151_60, List.forall_mem_cons.mpr ⟨k_151_61, List.forall_mem_cons.mpr ⟨k_151_63, List.forall_mem_cons.mpr ⟨k_151_64, fun _ h => absurd h List.not_mem_nil⟩⟩⟩⟩⟩⟩⟩⟩
def B151_5 : List (Nat × aO) := [(65, oCV 5 150 4), (68, oSI 5 7 70), (70, oLA 0 71), (71, oLI 1 72), (72, oLI 4 74), (74, oLI 3 75), (75, oLI 2 76), (76, oLI 5 78)]
theorem B151_5_ok : ∀ q ∈ B151_5, Ok M151 q.1 q.2 := List.forall_mem_cons.mpr ⟨k_151_65, List.forall_mem_cons.mpr ⟨k_151_68, List.forall_mem_cons.mpr ⟨k_151_70, List.forall_mem_cons.mpr ⟨k_151_71, List.forall_mem_cons.mpr ⟨k_151_72, List.forall_mem_cons.mpr ⟨k_151_74, List.forall_mem_cons.mpr ⟨k_151_75, List.forall_mem_cons.mpr ⟨k_151_76, fun _ h => absurd h List.not_mem_nil⟩⟩⟩⟩⟩⟩⟩⟩
def B151_6 : List (Nat × aO) := [(78, oCV 5 149 5), (81, oS (gKo (.int 0)) 82), (82, oSI 6 7 84), (84, oLI 6 86), (86, oS (gKo (.int 4)) 87), (87, oB2 b_icmp_ge q_ge 117 90), (90, oLA 0 91), (91, oGe 5 15 94)]
theorem B151_6_ok : ∀ q ∈ B151_6, Ok M151 q.1 q.2 := List.forall_mem_cons.mpr ⟨k_151_78, List.forall_mem_cons.mpr ⟨k_151_81, List.forall_mem_cons.mpr ⟨k_151_82, List.forall_mem_cons.mpr ⟨k_151_84, List.forall_mem_cons.mpr ⟨k_151_86, List.forall_mem_cons.mpr ⟨k_151_87, List.forall_mem_cons.mpr ⟨k_151_90, List.forall_mem_cons.mpr ⟨k_151_91, fun _ h => absurd h List.not_mem_nil⟩⟩⟩⟩⟩⟩⟩⟩
def B151_7 : List (Nat × aO) := [(94, oLI 4 96), (96, oLI 3 97), (97, oCS 147 2), (100, oLI 6 102), (102, oS (gI2 f_iadd) 103), (103, oLA 0 104), (104, oGe 5 18 107), (107, oLI 6 109)]
theorem B151_7_ok : ∀ q ∈ B151_7, Ok M151 q.1 q.2 := List.forall_mem_cons.mpr ⟨k_151_94, List.forall_mem_cons.mpr ⟨k_151_96, List.forall_mem_cons.mpr ⟨k_151_97, List.forall_mem_cons.mpr ⟨k_151_100, List.forall_mem_cons.mpr ⟨k_151_102, List.forall_mem_cons.mpr ⟨k_151_103, List.forall_mem_cons.mpr ⟨k_151_104, List.forall_mem_cons.mpr ⟨k_151_107, fun _ h => absurd h List.not_mem_nil⟩⟩⟩⟩⟩⟩⟩⟩
def B151_8 : List (Nat × aO) := [(109, oAI 110), (110, oAT 111), (111, oInc 6 1 7 114), (114, oGo 84), (117, oInc 4 1 7 120), (120, oGo 37), (123, oInc 3 1 7 126), (126, oGo 28)]
theorem B151_8_ok : ∀ q ∈ B151_8, Ok M151 q.1 q.2 := List.forall_mem_cons.mpr ⟨k_151_109, List.forall_mem_cons.mpr ⟨k_151_110, List.forall_mem_cons.mpr ⟨k_151_111, List.forall_mem_cons.mpr ⟨k_151_114, List.forall_mem_cons.mpr ⟨k_151_117, List.forall_mem_cons.mpr ⟨k_151_120, List.forall_mem_cons.mpr ⟨k_151_123, List.forall_mem_cons.mpr ⟨k_151_126, fun _ h => absurd h List.not_mem_nil⟩⟩⟩⟩⟩⟩⟩⟩
def B151_9 : List (Nat × aO) := [(129, oRV)]
theorem B151_9_ok : ∀ q ∈ B151_9, Ok M151 q.1 q.2 := List.forall_mem_cons.mpr ⟨k_151_129, fun _ h => absurd h List.not_mem_nil⟩
def P151 : List (Nat × List (Nat × aO)) := [(13, B151_0), (23, B151_1), (37, B151_2), (50, B151_3), (64, B151_4), (76, B151_5), (91, B151_6), (107, B151_7), (126, B151_8), (129, B151_9)]
theorem P151_ok : ∀ b ∈ P151, ∀ q ∈ b.2, Ok M151 q.1 q.2 := List.forall_mem_cons.mpr ⟨B151_0_ok, List.forall_mem_cons.mpr ⟨B151_1_ok, List.forall_mem_cons.mpr ⟨B151_2_ok, List.forall_mem_cons.mpr ⟨B151_3_ok, List.forall_mem_cons.mpr ⟨B151_4_ok, List.forall_mem_cons.mpr ⟨B151_5_ok, List.forall_mem_cons.mpr ⟨B151_6_ok, List.forall_mem_cons.mpr ⟨B151_7_ok, List.forall_mem_cons.mpr ⟨B151_8_ok, List.forall_mem_cons.mpr ⟨B151_9_ok, fun _ h => absurd h List.not_mem_nil⟩⟩⟩⟩⟩⟩⟩⟩⟩⟩
