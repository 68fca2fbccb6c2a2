theorem k_70_0 : Ok M70 0 (oLI 1 1) := r_iload_n (j := 1) (by decide +kernel) rfl
theorem k_70_1 : Ok M70 1 (oB1 b_if_ge q_ge 9 4) := r_if_ge (off := 8) (by decide +kernel) (by decide +kernel)
theorem k_70_4 : Ok M70 4 (oLA 0 5) := r_aload_n (j := 0) (by decide +kernel) rfl
theorem k_70_5 : Ok M70 5 (oCV 4 91 0) := r_callV (idx := 47) (by decide +kernel) w_310 cv_91
theorem k_70_8 : Ok M70 8 (oRI) := r_ireturn rfl (by decide +kernel)
theorem k_70_9 : Ok M70 9 (oLA 0 10) := r_aload_n (j := 0) (by decide +kernel) rfl
theorem k_70_10 : Ok M70 10 (oGe 4 1 13) := r_get (idx := 19) (by decide +kernel) cd_4 1 (by decide) w_279 rfl
theorem k_70_13 : Ok M70 13 (oLI 1 14) := r_iload_n (j := 1) (by decide +kernel) rfl
theorem k_70_14 : Ok M70 14 (oCV 0 6 1) := r_callV (idx := 132) (by decide +kernel) w_470 cv_6
theorem k_70_17 : Ok M70 17 (oRI) := r_ireturn rfl (by decide +kernel)
def B70_0 : List (Nat × aO) := [(0, oLI 1 1), (1, oB1 b_if_ge q_ge 9 4), (4, oLA 0 5), (5, oCV 4 91 0), (8, oRI), (9, oLA 0 10), (10, oGe 4 1 13), (13, oLI 1 14)]
theorem B70_0_ok : ∀ q ∈ B70_0, Ok M70 q.1 q.2 := List.forall_mem_cons.mpr ⟨k_70_0, List.forall_mem_cons.mpr ⟨k_70_1, List.forall_mem_cons.mpr ⟨k_70_4, List.forall_mem_cons.mpr ⟨k_70_5, List.forall_mem_cons.mpr ⟨k_70_8, List.forall_mem_cons.mpr ⟨k_70_9, List.forall_mem_cons.mpr ⟨k_70_10, List.forall_mem_cons.mpr ⟨k_70_13, fun _ h => absurd h List.not_mem_nil⟩⟩⟩⟩⟩⟩⟩⟩
def B70_1 : List (Nat × aO) := [(14, oCV 0 6 1), (17, oRI)]
theorem B70_1_ok : ∀ q ∈ B70_1, Ok M70 q.1 q.2 := List.forall_mem_cons.mpr ⟨k_70_14, List.forall_mem_cons.mpr ⟨k_70_17, fun _ h => absurd h List.not_mem_nil⟩⟩
def P70 : List (Nat × List (Nat × aO)) := [(13, B70_0), (17, B70_1)]
theorem P70_ok : ∀ b ∈ P70, ∀ q ∈ b.2, Ok M70 q.1 q.2 := List.forall_mem_cons.mpr ⟨B70_0_ok, List.forall_mem_cons.mpr ⟨B70_1_ok, fun _ h => absurd h List.not_mem_nil⟩⟩
theorem k_71_0 : Ok M71 0 (oLA 0 1) := r_aload_n (j := 0) (by decide +kernel) rfl
theorem k_71_1 : Ok M71 1 (oGe 4 1 4) := r_get (idx := 19) (by decide +kernel) cd_4 1 (by decide) w_279 rfl
theorem k_71_4 : Ok M71 4 (oLI 1 5) := r_iload_n (j := 1) (by decide +kernel) rfl
theorem k_71_5 : Ok M71 5 (oCV 0 2 1) := r_callV (idx := 108) (by decide +kernel) w_437 cv_2
theorem k_71_8 : Ok M71 8 (oB1 b_if_eq q_eq 32 11) := r_if_eq (off := 24) (by decide +kernel) (by decide +kernel)
theorem k_71_11 : Ok M71 11 (oLA 0 12) := r_aload_n (j := 0) (by decide +kernel) rfl
theorem k_71_12 : Ok M71 12 (oGe 4 1 15) := r_get (idx := 19) (by decide +kernel) cd_4 1 (by decide) w_279 rfl
theorem k_71_15 : Ok M71 15 (oLI 2 16) := r_iload_n (j := 2) (by decide +kernel) rfl
theorem k_71_16 : Ok M71 16 (oCV 0 1 1) := r_callV (idx := 88) (by decide +kernel) w_428 cv_1
theorem k_71_19 : Ok M71 19 (oB1 b_if_eq q_eq 32 22) := r_if_eq (off := 13) (by decide +kernel) (by decide +kernel)
theorem k_71_22 : Ok M71 22 (oLI 3 23) := r_iload_n (j := 3) (by decide +kernel) rfl
theorem k_71_23 : Ok M71 23 (oB1 b_if_lt q_lt 32 26) := r_if_lt (off := 9) (by decide +kernel) (by decide +kernel)
theorem k_71_26 : Ok M71 26 (oLI 3 27) := r_iload_n (j := 3) (by decide +kernel) rfl
theorem k_71_27 : Ok M71 27 (oS (gKo (.int 99)) 29) := r_bipush (n := 99) (by decide +kernel) (by decide +kernel)
theorem k_71_29 : Ok M71 29 (oB2 b_icmp_le q_le 37 32) := r_icmp_le (off := 8) (by decide +kernel) (by decide +kernel)
theorem k_71_32 : Ok M71 32 (oLA 0 33) := r_aload_n (j := 0) (by decide +kernel) rfl
theorem k_71_33 : Ok M71 33 (oCV 4 91 0) := r_callV (idx := 47) (by decide +kernel) w_310 cv_91
theorem k_71_36 : Ok M71 36 (oRI) := r_ireturn rfl (by decide +kernel)
theorem k_71_37 : Ok M71 37 (oLA 0 38) := r_aload_n (j := 0) (by decide +kernel) rfl
theorem k_71_38 : Ok M71 38 (oGe 4 1 41) := r_get (idx := 19) (by decide +kernel) cd_4 1 (by decide) w_279 rfl
theorem k_71_41 : Ok M71 41 (oLI 1 42) := r_iload_n (j := 1) (by decide +kernel) rfl
theorem k_71_42 : Ok M71 42 (oLI 2 43) := r_iload_n (j := 2) (by decide +kernel) rfl
theorem k_71_43 : Ok M71 43 (oCV 0 3 2) := r_callV (idx := 129) (by decide +kernel) w_465 cv_3
theorem k_71_46 : Ok M71 46 (oSI 4 5 48) := r_istore (by decide +kernel)
theorem k_71_48 : Ok M71 48 (oLI 4 50) := r_iload (by decide +kernel)
theorem k_71_50 : Ok M71 50 (oLI 3 51) := r_iload_n (j := 3) (by decide +kernel) rfl
theorem k_71_51 : Ok M71 51 (oB2 b_icmp_ne q_ne 59 54) := r_icmp_ne (off := 8) (by decide +kernel) (by decide +kernel)
theorem k_71_54 : Ok M71 54 (oLA 0 55) := r_aload_n (j := 0) (by decide +kernel) rfl
theorem k_71_55 : Ok M71 55 (oCV 4 92 0) := r_callV (idx := 135) (by decide +kernel) w_475 cv_92
theorem k_71_58 : Ok M71 58 (oRI) := r_ireturn rfl (by decide +kernel)
theorem k_71_59 : Ok M71 59 (oLA 0 60) := r_aload_n (j := 0) (by decide +kernel) rfl
theorem k_71_60 : Ok M71 60 (oGe 4 3 63) := r_get (idx := 29) (by decide +kernel) cd_4 3 (by decide) w_281 rfl
theorem k_71_63 : Ok M71 63 (oLA 0 64) := r_aload_n (j := 0) (by decide +kernel) rfl
theorem k_71_64 : Ok M71 64 (oGe 4 1 67) := r_get (idx := 19) (by decide +kernel) cd_4 1 (by decide) w_279 rfl
theorem k_71_67 : Ok M71 67 (oCV 2 45 1) := r_callV (idx := 74) (by decide +kernel) w_405 cv_45
theorem k_71_70 : Ok M71 70 (oLA 0 71) := r_aload_n (j := 0) (by decide +kernel) rfl
theorem k_71_71 : Ok M71 71 (oGe 4 1 74) := r_get (idx := 19) (by decide +kernel) cd_4 1 (by decide) w_279 rfl
theorem k_71_74 : Ok M71 74 (oLI 1 75) := r_iload_n (j := 1) (by decide +kernel) rfl
theorem k_71_75 : Ok M71 75 (oLI 2 76) := r_iload_n (j := 2) (by decide +kernel) rfl
theorem k_71_76 : Ok M71 76 (oLI 3 77) := r_iload_n (j := 3) (by decide +kernel) rfl
theorem k_71_77 : Ok M71 77 (oCV 0 4 3) := r_callV (idx := 138) (by decide +kernel) w_479 cv_4
theorem k_71_80 : Ok M71 80 (oLA 0 81) := r_aload_n (j := 0) (by decide +kernel) rfl
theorem k_71_81 : Ok M71 81 (oCV 4 90 0) := r_callV (idx := 44) (by decide +kernel) w_244 cv_90
theorem k_71_84 : Ok M71 84 (oLI 4 86) := r_iload (by decide +kernel)
theorem k_71_86 : Ok M71 86 (oRI) := r_ireturn rfl (by decide +kernel)
def B71_0 : List (Nat × aO) := [(0, oLA 0 1), (1, oGe 4 1 4), (4, oLI 1 5), (5, oCV 0 2 1), (8, oB1 b_if_eq q_eq 32 11), (11, oLA 0 12), (12, oGe 4 1 15), (15, oLI 2 16)]
theorem B71_0_ok : ∀ q ∈ B71_0, Ok M71 q.1 q.2 := List.forall_mem_cons.mpr ⟨k_71_0, List.forall_mem_cons.mpr ⟨k_71_1, List.forall_mem_cons.mpr ⟨k_71_4, List.forall_mem_cons.mpr ⟨k_71_5, List.forall_mem_cons.mpr ⟨k_71_8, List.forall_mem_cons.mpr ⟨k_71_11, List.forall_mem_cons.mpr ⟨k_71_12, List.forall_mem_cons.mpr ⟨k_71_15, fun _ h => absurd h List.not_mem_nil⟩⟩⟩⟩⟩⟩⟩⟩
def B71_1 : List (Nat × aO) := [(16, oCV 0 1 1), (19, oB1 b_if_eq q_eq 32 22), (22, oLI 3 23), (23, oB1 b_if_lt q_lt 32 26), (26, oLI 3 27), (27, oS (gKo (.int 99)) 29), (29, oB2 b_icmp_le q_le 37 32), (32, oLA 0 33)]
theorem B71_1_ok : ∀ q ∈ B71_1, Ok M71 q.1 q.2 := List.forall_mem_cons.mpr ⟨k_71_16, List.forall_mem_cons.mpr ⟨k_71_19, List.forall_mem_cons.mpr ⟨k_71_22, List.forall_mem_cons.mpr ⟨k_71_23, List.forall_mem_cons.mpr ⟨k_71_26, List.forall_mem_cons.mpr ⟨k_71_27, List.forall_mem_cons.mpr ⟨k_71_29, List.forall_mem_cons.mpr ⟨k_71_32, fun _ h => absurd h List.not_mem_nil⟩⟩⟩⟩⟩⟩⟩⟩
def B71_2 : List (Nat × aO) := [(33, oCV 4 91 0), (36, oRI), (37, oLA 0 38), (38, oGe 4 1 41), (41, oLI 1 42), (42, oLI 2 43), (43, oCV 0 3 2), (46, oSI 4 5 48)]
theorem B71_2_ok : ∀ q ∈ B71_2, Ok M71 q.1 q.2 := List.forall_mem_cons.mpr ⟨k_71_33, List.forall_mem_cons.mpr ⟨k_71_36, List.forall_mem_cons.mpr ⟨k_71_37, List.forall_mem_cons.mpr ⟨k_71_38, List.forall_mem_cons.mpr ⟨k_71_41, List.forall_mem_cons.mpr ⟨k_71_42, List.forall_mem_cons.mpr ⟨k_71_43, List.forall_mem_cons.mpr ⟨k_71_46, fun _ h => absurd h List.not_mem_nil⟩⟩⟩⟩⟩⟩⟩⟩
def B71_3 : List (Nat × aO) := [(48, oLI 4 50), (50, oLI 3 51), (51, oB2 b_icmp_ne q_ne 59 54), (54, oLA 0 55), (55, oCV 4 92 0), (58, oRI), (59, oLA 0 60), (60, oGe 4 3 63)]
theorem B71_3_ok : ∀ q ∈ B71_3, Ok M71 q.1 q.2 := List.forall_mem_cons.mpr ⟨k_71_48, List.forall_mem_cons.mpr ⟨k_71_50, List.forall_mem_cons.mpr ⟨k_71_51, List.forall_mem_cons.mpr ⟨k_71_54, List.forall_mem_cons.mpr ⟨k_71_55, List.forall_mem_cons.mpr ⟨k_71_58, List.forall_mem_cons.mpr ⟨k_71_59, List.forall_mem_cons.mpr ⟨k_71_60, fun _ h => absurd h List.not_mem_nil⟩⟩⟩⟩⟩⟩⟩⟩
def B71_4 : List (Nat × aO) := [(63, oLA 0 64), (64, oGe 4 1 67), (67, oCV 2 45 1), (70, oLA 0 71), (71, oGe 4 1 74), (74, oLI 1 75), (75, oLI 2 76), (76, oLI 3 77)]
theorem B71_4_ok : ∀ q ∈ B71_4, Ok M71 q.1 q.2 := List.forall_mem_cons.mpr ⟨k_71_63, List.forall_mem_cons.mpr ⟨k_71_64, List.forall_mem_cons.mpr ⟨k_71_67, List.forall_mem_cons.mpr ⟨k_71_70, List.forall_mem_cons.mpr ⟨k_71_71, List.forall_mem_cons.mpr ⟨k_71_74, List.forall_mem_cons.mpr ⟨k_71_75, List.forall_mem_cons.mpr ⟨k_71_76, fun _ h => absurd h List.not_mem_nil⟩⟩⟩⟩⟩⟩⟩⟩
def B71_5 : List (Nat × aO) := [(77, oCV 0 4 3), (80, oLA 0 81), (81, oCV 4 90 0), (84, oLI 4 86), (86, oRI)]
theorem B71_5_ok : ∀ q ∈ B71_5, Ok M71 q.1 q.2 := List.forall_mem_cons.mpr ⟨k_71_77, List.forall_mem_cons.mpr ⟨k_71_80, List.forall_mem_cons.mpr ⟨k_71_81, List.forall_mem_cons.mpr ⟨k_71_84, List.forall_mem_cons.mpr ⟨k_71_86, fun _ h => absurd h List.not_mem_nil⟩⟩⟩⟩⟩
def P71 : List (Nat × List (Nat × aO)) := [(15, B71_0), (32, B71_1), (46, B71_2), (60, B71_3), (76, B71_4), (86, B71_5)]
theorem P71_ok : ∀ b ∈ P71, ∀ q ∈ b.2, Ok M71 q.1 q.2 := List.forall_mem_cons.mpr ⟨B71_0_ok, List.forall_mem_cons.mpr ⟨B71_1_ok, List.forall_mem_cons.mpr ⟨B71_2_ok, List.forall_mem_cons.mpr ⟨B71_3_ok, List.forall_mem_cons.mpr ⟨B71_4_ok, List.forall_mem_cons.mpr ⟨B71_5_ok, fun _ h => absurd h List.not_mem_nil⟩⟩⟩⟩⟩⟩
theorem k_72_0 : Ok M72 0 (oLA 0 1) := r_aload_n (j := 0) (by decide +kernel) rfl
theorem k_72_1 : Ok M72 1 (oGe 4 1 4) := r_get (idx := 19) (by decide +kernel) cd_4 1 (by decide) w_279 rfl
theorem k_72_4 : Ok M72 4 (oLI 1 5) := r_iload_n (j := 1) (by decide +kernel) rfl
theorem k_72_5 : Ok M72 5 (oCV 0 2 1) := r_callV (idx := 108) (by decide +kernel) w_437 cv_2
theorem k_72_8 : Ok M72 8 (oB1 b_if_eq q_eq 23 11) := r_if_eq (off := 15) (by decide +kernel) (by decide +kernel)
theorem k_72_11 : Ok M72 11 (oLI 2 12) := r_iload_n (j := 2) (by decide +kernel) rfl
theorem k_72_12 : Ok M72 12 (oS (gKo (.int 1)) 13) := r_iconst (n := 1) (by decide +kernel) (by decide +kernel)
theorem k_72_13 : Ok M72 13 (oB2 b_icmp_lt q_lt 23 16) := r_icmp_lt (off := 10) (by decide +kernel) (by decide +kernel)
theorem k_72_16 : Ok M72 16 (oLI 2 17) := r_iload_n (j := 2) (by decide +kernel) rfl
theorem k_72_17 : Ok M72 17 (oS (gKo (.int 999)) 20) := r_sipush (n := 999) (by decide +kernel) (by decide +kernel)
theorem k_72_20 : Ok M72 20 (oB2 b_icmp_le q_le 28 23) := r_icmp_le (off := 8) (by decide +kernel) (by decide +kernel)
theorem k_72_23 : Ok M72 23 (oLA 0 24) := r_aload_n (j := 0) (by decide +kernel) rfl
theorem k_72_24 : Ok M72 24 (oCV 4 91 0) := r_callV (idx := 47) (by decide +kernel) w_310 cv_91
theorem k_72_27 : Ok M72 27 (oRI) := r_ireturn rfl (by decide +kernel)
theorem k_72_28 : Ok M72 28 (oLA 0 29) := r_aload_n (j := 0) (by decide +kernel) rfl
theorem k_72_29 : Ok M72 29 (oGe 4 1 32) := r_get (idx := 19) (by decide +kernel) cd_4 1 (by decide) w_279 rfl
theorem k_72_32 : Ok M72 32 (oGe 0 3 35) := r_get (idx := 111) (by decide +kernel) cd_0 3 (by decide) w_141 rfl
theorem k_72_35 : Ok M72 35 (oLI 1 36) := r_iload_n (j := 1) (by decide +kernel) rfl
theorem k_72_36 : Ok M72 36 (oAI 37) := r_iaload (by decide +kernel)
theorem k_72_37 : Ok M72 37 (oSI 3 4 38) := r_istore_n (j := 3) (by decide +kernel) rfl
theorem k_72_38 : Ok M72 38 (oLI 3 39) := r_iload_n (j := 3) (by decide +kernel) rfl
theorem k_72_39 : Ok M72 39 (oLI 2 40) := r_iload_n (j := 2) (by decide +kernel) rfl
theorem k_72_40 : Ok M72 40 (oB2 b_icmp_ne q_ne 48 43) := r_icmp_ne (off := 8) (by decide +kernel) (by decide +kernel)
theorem k_72_43 : Ok M72 43 (oLA 0 44) := r_aload_n (j := 0) (by decide +kernel) rfl
theorem k_72_44 : Ok M72 44 (oCV 4 92 0) := r_callV (idx := 135) (by decide +kernel) w_475 cv_92
theorem k_72_47 : Ok M72 47 (oRI) := r_ireturn rfl (by decide +kernel)
theorem k_72_48 : Ok M72 48 (oLA 0 49) := r_aload_n (j := 0) (by decide +kernel) rfl
theorem k_72_49 : Ok M72 49 (oGe 4 3 52) := r_get (idx := 29) (by decide +kernel) cd_4 3 (by decide) w_281 rfl
theorem k_72_52 : Ok M72 52 (oLA 0 53) := r_aload_n (j := 0) (by decide +kernel) rfl
theorem k_72_53 : Ok M72 53 (oGe 4 1 56) := r_get (idx := 19) (by decide +kernel) cd_4 1 (by decide) w_279 rfl
theorem k_72_56 : Ok M72 56 (oCV 2 45 1) := r_callV (idx := 74) (by decide +kernel) w_405 cv_45
theorem k_72_59 : Ok M72 59 (oLA 0 60) := r_aload_n (j := 0) (by decide +kernel) rfl
theorem k_72_60 : Ok M72 60 (oGe 4 1 63) := r_get (idx := 19) (by decide +kernel) cd_4 1 (by decide) w_279 rfl
theorem k_72_63 : Ok M72 63 (oGe 0 3 66) := r_get (idx := 111) (by decide +kernel) cd_0 3 (by decide) w_141 rfl
theorem k_72_66 : Ok M72 66 (oLI 1 67) := r_iload_n (j := 1) (by decide +kernel) rfl
theorem k_72_67 : Ok M72 67 (oLI 2 68) := r_iload_n (j := 2) (by decide +kernel) rfl
theorem k_72_68 : Ok M72 68 (oAT 69) := r_iastore (by decide +kernel)
theorem k_72_69 : Ok M72 69 (oLA 0 70) := r_aload_n (j := 0) (by decide +kernel) rfl
theorem k_72_70 : Ok M72 70 (oCV 4 90 0) := r_callV (idx := 44) (by decide +kernel) w_244 cv_90
theorem k_72_73 : Ok M72 73 (oLI 3 74) := r_iload_n (j := 3) (by decide +kernel) rfl
theorem k_72_74 : Ok M72 74 (oRI) := r_ireturn rfl (by decide +kernel)
def B72_0 : List (Nat × aO) := [(0, oLA 0 1), (1, oGe 4 1 4), (4, oLI 1 5), (5, oCV 0 2 1), (8, oB1 b_if_eq q_eq 23 11), (11, oLI 2 12), (12, oS (gKo (.int 1)) 13), (13, oB2 b_icmp_lt q_lt 23 16)]
theorem B72_0_ok : ∀ q ∈ B72_0, Ok M72 q.1 q.2 := List.forall_mem_cons.mpr ⟨k_72_0, List.forall_mem_cons.mpr ⟨k_72_1, List.forall_mem_cons.mpr ⟨k_72_4, List.forall_mem_cons.mpr ⟨k_72_5, List.forall_mem_cons.mpr ⟨k_72_8, List.forall_mem_cons.mpr ⟨k_72_11, List.forall_mem_cons.mpr ⟨k_72_12, List.forall_mem_cons.mpr ⟨k_72_13, fun _ h => absurd h List.not_mem_nil⟩⟩⟩⟩⟩⟩⟩⟩
def B72_1 : List (Nat × aO) := [(16, oLI 2 17), (17, oS (gKo (.int 999)) 20), (20, oB2 b_icmp_le q_le 28 23), (23, oLA 0 24), (24, oCV 4 91 0), (27, oRI), (28, oLA 0 29), (29, oGe 4 1 32)]
theorem B72_1_ok : ∀ q ∈ B72_1, Ok M72 q.1 q.2 := List.forall_mem_cons.mpr ⟨k_72_16, List.forall_mem_cons.mpr ⟨k_72_17, List.forall_mem_cons.mpr ⟨k_72_20, List.forall_mem_cons.mpr ⟨k_72_23, List.forall_mem_cons.mpr ⟨k_72_24, List.forall_mem_cons.mpr ⟨k_72_27, List.forall_mem_cons.mpr ⟨k_72_28, List.forall_mem_cons.mpr ⟨k_72_29, fun _ h => absurd h List.not_mem_nil⟩⟩⟩⟩⟩⟩⟩⟩
def B72_2 : List (Nat × aO) := [(32, oGe 0 3 35), (35, oLI 1 36), (36, oAI 37), (37, oSI 3 4 38), (38, oLI 3 39), (39, oLI 2 40), (40, oB2 b_icmp_ne q_ne 48 43), (43, oLA 0 44)]
theorem B72_2_ok : ∀ q ∈ B72_2, Ok M72 q.1 q.2 := List.forall_mem_cons.mpr ⟨k_72_32, List.forall_mem_cons.mpr ⟨k_72_35, List.forall_mem_cons.mpr ⟨k_72_36, List.forall_mem_cons.mpr ⟨k_72_37, List.forall_mem_cons.mpr ⟨k_72_38, List.forall_mem_cons.mpr ⟨k_72_39, List.forall_mem_cons.mpr ⟨k_72_40, List.forall_mem_cons.mpr ⟨k_72_43, fun _ h => absurd h List.not_mem_nil⟩⟩⟩⟩⟩⟩⟩⟩
def B72_3 : List (Nat × aO) := [(44, oCV 4 92 0), (47, oRI), (48, oLA 0 49), (49, oGe 4 3 52), (52, oLA 0 53), (53, oGe 4 1 56), (56, oCV 2 45 1), (59, oLA 0 60)]
theorem B72_3_ok : ∀ q ∈ B72_3, Ok M72 q.1 q.2 := List.forall_mem_cons.mpr ⟨k_72_44, List.forall_mem_cons.mpr ⟨k_72_47, List.forall_mem_cons.mpr ⟨k_72_48, List.forall_mem_cons.mpr ⟨k_72_49, List.forall_mem_cons.mpr ⟨k_72_52, List.forall_mem_cons.mpr ⟨k_72_53, List.forall_mem_cons.mpr ⟨k_72_56, List.forall_mem_cons.mpr ⟨k_72_59, fun _ h => absurd h List.not_mem_nil⟩⟩⟩⟩⟩⟩⟩⟩
def B72_4 : List (Nat × aO) := [(60, oGe 4 1 63), (63, oGe 0 3 66), (66, oLI 1 67), (67, oLI 2 68), (68, oAT 69), (69, oLA 0 70), (70, oCV 4 90 0), (73, oLI 3 74)]
theorem B72_4_ok : ∀ q ∈ B72_4, Ok M72 q.1 q.2 := List.forall_mem_cons.mpr ⟨k_72_60, List.forall_mem_cons.mpr ⟨k_72_63, List.forall_mem_cons.mpr ⟨k_72_66, List.forall_mem_cons.mpr ⟨k_72_67, List.forall_mem_cons.mpr ⟨k_72_68, List.forall_mem_cons.mpr ⟨k_72_69, List.forall_mem_cons.mpr ⟨k_72_70, List.forall_mem_cons.mpr ⟨k_72_73, fun _ h => absurd h List.not_mem_nil⟩⟩⟩⟩⟩⟩⟩⟩
def B72_5 : List (Nat × aO) := [(74, oRI)]
theorem B72_5_ok : ∀ q ∈ B72_5, Ok M72 q.1 q.2 := List.forall_mem_cons.mpr ⟨k_72_74, fun _ h => absurd h List.not_mem_nil⟩
def P72 : List (Nat × List (Nat × aO)) := [(13, B72_0), (29, B72_1), (43, B72_2), (59, B72_3), (73, B72_4), (74, B72_5)]
theorem P72_ok : ∀ b ∈ P72, ∀ q ∈ b.2, Ok M72 q.1 q.2 := List.forall_mem_cons.mpr ⟨B72_0_ok, List.forall_mem_cons.mpr ⟨B72_1_ok, List.forall_mem_cons.mpr ⟨B72_2_ok, List.forall_mem_cons.mpr ⟨B72_3_ok, List.forall_mem_cons.mpr ⟨B72_4_ok, List.forall_mem_cons.mpr ⟨B72_5_ok, fun _ h => absurd h List.not_mem_nil⟩⟩⟩⟩⟩⟩
theorem k_73_0 : Ok M73 0 (oLI 1 1) := r_iload_n (j := 1) (by decide +kernel) rfl
theorem k_73_1 : Ok M73 1 (oB1 b_if_lt q_lt 9 4) := r_if_lt (off := 8) (by decide +kernel) (by decide +kernel)
theorem k_73_4 : Ok M73 4 (oLI 1 5) := r_iload_n (j := 1) (by decide +kernel) rfl
theorem k_73_5 : Ok M73 5 (oS (gKo (.int 4)) 6) := r_iconst (n := 4) (by decide +kernel) (by decide +kernel)
theorem k_73_6 : Ok M73 6 (oB2 b_icmp_le q_le 14 9) := r_icmp_le (off := 8) (by decide +kernel) (by decide +kernel)
theorem k_73_9 : Ok M73 9 (oLA 0 10) := r_aload_n (j := 0) (by decide +kernel) rfl
theorem k_73_10 : Ok M73 10 (oCV 4 91 0) := r_callV (idx := 47) (by decide +kernel) w_310 cv_91
theorem k_73_13 : Ok M73 13 (oRI) := r_ireturn rfl (by decide +kernel)
theorem k_73_14 : Ok M73 14 (oLA 0 15) := r_aload_n (j := 0) (by decide +kernel) rfl
theorem k_73_15 : Ok M73 15 (oGe 4 1 18) := r_get (idx := 19) (by decide +kernel) cd_4 1 (by decide) w_279 rfl
theorem k_73_18 : Ok M73 18 (oGe 0 6 21) := r_get (idx := 142) (by decide +kernel) cd_0 6 (by decide) w_146 rfl
theorem k_73_21 : Ok M73 21 (oSI 2 3 22) := r_istore_n (j := 2) (by decide +kernel) rfl
theorem k_73_22 : Ok M73 22 (oLI 2 23) := r_iload_n (j := 2) (by decide +kernel) rfl
theorem k_73_23 : Ok M73 23 (oLI 1 24) := r_iload_n (j := 1) (by decide +kernel) rfl
theorem k_73_24 : Ok M73 24 (oB2 b_icmp_ne q_ne 32 27) := r_icmp_ne (off := 8) (by decide +kernel) (by decide +kernel)
theorem k_73_27 : Ok M73 27 (oLA 0 28) := r_aload_n (j := 0) (by decide +kernel) rfl
theorem k_73_28 : Ok M73 28 (oCV 4 92 0) := r_callV (idx := 135) (by decide +kernel) w_475 cv_92
theorem k_73_31 : Ok M73 31 (oRI) := r_ireturn rfl (by decide +kernel)
theorem k_73_32 : Ok M73 32 (oLA 0 33) := r_aload_n (j := 0) (by decide +kernel) rfl
theorem k_73_33 : Ok M73 33 (oGe 4 3 36) := r_get (idx := 29) (by decide +kernel) cd_4 3 (by decide) w_281 rfl
theorem k_73_36 : Ok M73 36 (oLA 0 37) := r_aload_n (j := 0) (by decide +kernel) rfl
theorem k_73_37 : Ok M73 37 (oGe 4 1 40) := r_get (idx := 19) (by decide +kernel) cd_4 1 (by decide) w_279 rfl
theorem k_73_40 : Ok M73 40 (oCV 2 45 1) := r_callV (idx := 74) (by decide +kernel) w_405 cv_45
theorem k_73_43 : Ok M73 43 (oLA 0 44) := r_aload_n (j := 0) (by decide +kernel) rfl
theorem k_73_44 : Ok M73 44 (oGe 4 1 47) := r_get (idx := 19) (by decide +kernel) cd_4 1 (by decide) w_279 rfl
theorem k_73_47 : Ok M73 47 (oLI 1 48) := r_iload_n (j := 1) (by decide +kernel) rfl
theorem k_73_48 : Ok M73 48 (oPI 0 6 51) := r_putI (idx := 142) (by decide +kernel) cd_0 6 (by decide) w_146 rfl rfl (by decide +kernel)
theorem k_73_51 : Ok M73 51 (oLA 0 52) := r_aload_n (j := 0) (by decide +kernel) rfl
theorem k_73_52 : Ok M73 52 (oCV 4 90 0) := r_callV (idx := 44) (by decide +kernel) w_244 cv_90
theorem k_73_55 : Ok M73 55 (oLI 2 56) := r_iload_n (j := 2) (by decide +kernel) rfl
theorem k_73_56 : Ok M73 56 (oRI) := r_ireturn rfl (by decide +kernel)
def B73_0 : List (Nat × aO) := [(0, oLI 1 1), (1, oB1 b_if_lt q_lt 9 4), (4, oLI 1 5), (5, oS (gKo (.int 4)) 6), (6, oB2 b_icmp_le q_le 14 9), (9, oLA 0 10), (10, oCV 4 91 0), (13, oRI)]
theorem B73_0_ok : ∀ q ∈ B73_0, Ok M73 q.1 q.2 := List.forall_mem_cons.mpr ⟨k_73_0, List.forall_mem_cons.mpr ⟨k_73_1, List.forall_mem_cons.mpr ⟨k_73_4, List.forall_mem_cons.mpr ⟨k_73_5, List.forall_mem_cons.mpr ⟨k_73_6, List.forall_mem_cons.mpr ⟨k_73_9, List.forall_mem_cons.mpr ⟨k_73_10, List.forall_mem_cons.mpr ⟨k_73_13, fun _ h => absurd h List.not_mem_nil⟩⟩⟩⟩⟩⟩⟩⟩
def B73_1 : List (Nat × aO) := [(14, oLA 0 15), (15, oGe 4 1 18), (18, oGe 0 6 21), (21, oSI 2 3 22), (22, oLI 2 23), (23, oLI 1 24), (24, oB2 b_icmp_ne q_ne 32 27), (27, oLA 0 28)]
theorem B73_1_ok : ∀ q ∈ B73_1, Ok M73 q.1 q.2 := List.forall_mem_cons.mpr ⟨k_73_14, List.forall_mem_cons.mpr ⟨k_73_15, List.forall_mem_cons.mpr ⟨k_73_18, List.forall_mem_cons.mpr ⟨k_73_21, List.forall_mem_cons.mpr ⟨k_73_22, List.forall_mem_cons.mpr ⟨k_73_23, List.forall_mem_cons.mpr ⟨k_73_24, List.forall_mem_cons.mpr ⟨k_73_27, fun _ h => absurd h List.not_mem_nil⟩⟩⟩⟩⟩⟩⟩⟩
def B73_2 : List (Nat × aO) := [(28, oCV 4 92 0), (31, oRI), (32, oLA 0 33), (33, oGe 4 3 36), (36, oLA 0 37), (37, oGe 4 1 40), (40, oCV 2 45 1), (43, oLA 0 44)]
theorem B73_2_ok : ∀ q ∈ B73_2, Ok M73 q.1 q.2 := List.forall_mem_cons.mpr ⟨k_73_28, List.forall_mem_cons.mpr ⟨k_73_31, List.forall_mem_cons.mpr ⟨k_73_32, List.forall_mem_cons.mpr ⟨k_73_33, List.forall_mem_cons.mpr ⟨k_73_36, List.forall_mem_cons.mpr ⟨k_73_37, List.forall_mem_cons.mpr ⟨k_73_40, List.forall_mem_cons.mpr ⟨k_73_43, fun _ h => absurd h List.not_mem_nil⟩⟩⟩⟩⟩⟩⟩⟩
def B73_3 : List (Nat × aO) := [(44, oGe 4 1 47), (47, oLI 1 48), (48, oPI 0 6 51), (51, oLA 0 52), (52, oCV 4 90 0), (55, oLI 2 56), (56, oRI)]
theorem B73_3_ok : ∀ q ∈ B73_3, Ok M73 q.1 q.2 := List.forall_mem_cons.mpr ⟨k_73_44, List.forall_mem_cons.mpr ⟨k_73_47, List.forall_mem_cons.mpr ⟨k_73_48, List.forall_mem_cons.mpr ⟨k_73_51, List.forall_mem_cons.mpr ⟨k_73_52, List.forall_mem_cons.mpr ⟨k_73_55, List.forall_mem_cons.mpr ⟨k_73_56, fun _ h => absurd h List.not_mem_nil⟩⟩⟩⟩⟩⟩⟩
def P73 : List (Nat × List (Nat × aO)) := [(13, B73_0), (27, B73_1), (43, B73_2), (56, B73_3)]
theorem P73_ok : ∀ b ∈ P73, ∀ q ∈ b.2, Ok M73 q.1 q.2 := List.forall_mem_cons.mpr ⟨B73_0_ok, List.forall_mem_cons.mpr ⟨B73_1_ok, List.forall_mem_cons.mpr ⟨B73_2_ok, List.forall_mem_cons.mpr ⟨B73_3_ok, fun _ h => absurd h List.not_mem_nil⟩⟩⟩⟩
theorem k_74_0 : Ok M74 0 (oLA 0 1) := r_aload_n (j := 0) (by decide +kernel) rfl
theorem k_74_1 : Ok M74 1 (oGe 4 1 4) := r_get (idx := 19) (by decide +kernel) cd_4 1 (by decide) w_279 rfl
theorem k_74_4 : Ok M74 4 (oLI 1 5) := r_iload_n (j := 1) (by decide +kernel) rfl
theorem k_74_5 : Ok M74 5 (oCV 0 1 1) := r_callV (idx := 88) (by decide +kernel) w_428 cv_1
theorem k_74_8 : Ok M74 8 (oB1 b_if_eq q_eq 22 11) := r_if_eq (off := 14) (by decide +kernel) (by decide +kernel)
theorem k_74_11 : Ok M74 11 (oLA 0 12) := r_aload_n (j := 0) (by decide +kernel) rfl
theorem k_74_12 : Ok M74 12 (oGe 4 1 15) := r_get (idx := 19) (by decide +kernel) cd_4 1 (by decide) w_279 rfl
theorem k_74_15 : Ok M74 15 (oLI 2 16) := r_iload_n (j := 2) (by decide +kernel) rfl
theorem k_74_16 : Ok M74 16 (oCV 0 1 1) := r_callV (idx := 88) (by decide +kernel) w_428 cv_1
theorem k_74_19 : Ok M74 19 (oB1 b_if_ne q_ne 27 22) := r_if_ne (off := 8) (by decide +kernel) (by decide +kernel)
theorem k_74_22 : Ok M74 22 (oLA 0 23) := r_aload_n (j := 0) (by decide +kernel) rfl
theorem k_74_23 : Ok M74 23 (oCV 4 91 0) := r_callV (idx := 47) (by decide +kernel) w_310 cv_91
theorem k_74_26 : Ok M74 26 (oRI) := r_ireturn rfl (by decide +kernel)
theorem k_74_27 : Ok M74 27 (oLI 1 28) := r_iload_n (j := 1) (by decide +kernel) rfl
theorem k_74_28 : Ok M74 28 (oLI 2 29) := r_iload_n (j := 2) (by decide +kernel) rfl
theorem k_74_29 : Ok M74 29 (oB2 b_icmp_ne q_ne 37 32) := r_icmp_ne (off := 8) (by decide +kernel) (by decide +kernel)
theorem k_74_32 : Ok M74 32 (oLA 0 33) := r_aload_n (j := 0) (by decide +kernel) rfl
theorem k_74_33 : Ok M74 33 (oCV 4 92 0) := r_callV (idx := 135) (by decide +kernel) w_475 cv_92
theorem k_74_36 : Ok M74 36 (oRI) := r_ireturn rfl (by decide +kernel)
theorem k_74_37 : Ok M74 37 (oLA 0 38) := r_aload_n (j := 0) (by decide +kernel) rfl
theorem k_74_38 : Ok M74 38 (oGe 4 3 41) := r_get (idx := 29) (by decide +kernel) cd_4 3 (by decide) w_281 rfl
theorem k_74_41 : Ok M74 41 (oLA 0 42) := r_aload_n (j := 0) (by decide +kernel) rfl
theorem k_74_42 : Ok M74 42 (oGe 4 1 45) := r_get (idx := 19) (by decide +kernel) cd_4 1 (by decide) w_279 rfl
theorem k_74_45 : Ok M74 45 (oCV 2 45 1) := r_callV (idx := 74) (by decide +kernel) w_405 cv_45
theorem k_74_48 : Ok M74 48 (oLA 0 49) := r_aload_n (j := 0) (by decide +kernel) rfl
theorem k_74_49 : Ok M74 49 (oGe 4 1 52) := r_get (idx := 19) (by decide +kernel) cd_4 1 (by decide) w_279 rfl
theorem k_74_52 : Ok M74 52 (oLI 1 53) := r_iload_n (j := 1) (by decide +kernel) rfl
theorem k_74_53 : Ok M74 53 (oLI 2 54) := r_iload_n (j := 2) (by decide +kernel) rfl
theorem k_74_54 : Ok M74 54 (oCV 0 15 2) := r_callV (idx := 145) (by decide +kernel) w_492 cv_15
theorem k_74_57 : Ok M74 57 (oLA 0 58) := r_aload_n (j := 0) (by decide +kernel) rfl
theorem k_74_58 : Ok M74 58 (oCV 4 90 0) := r_callV (idx := 44) (by decide +kernel) w_244 cv_90
theorem k_74_61 : Ok M74 61 (oLA 0 62) := r_aload_n (j := 0) (by decide +kernel) rfl
theorem k_74_62 : Ok M74 62 (oGe 4 1 65) := r_get (idx := 19) (by decide +kernel) cd_4 1 (by decide) w_279 rfl
theorem k_74_65 : Ok M74 65 (oGe 0 0 68) := r_get (idx := 149) (by decide +kernel) cd_0 0 (by decide) w_133 rfl
theorem k_74_68 : Ok M74 68 (oRI) := r_ireturn rfl (by decide +kernel)
def B74_0 : List (Nat × aO) := [(0, oLA 0 1), (1, oGe 4 1 4), (4, oLI 1 5), (5, oCV 0 1 1), (8, oB1 b_if_eq q_eq 22 11), (11, oLA 0 12), (12, oGe 4 1 15), (15, oLI 2 16)]
theorem B74_0_ok : ∀ q ∈ B74_0, Ok M74 q.1 q.2 := List.forall_mem_cons.mpr ⟨k_74_0, List.forall_mem_cons.mpr ⟨k_74_1, List.forall_mem_cons.mpr ⟨k_74_4, List.forall_mem_cons.mpr ⟨k_74_5, List.forall_mem_cons.mpr ⟨k_74_8, List.forall_mem_cons.mpr ⟨k_74_11, List.forall_mem_cons.mpr ⟨k_74_12, List.forall_mem_cons.mpr ⟨k_74_15, fun _ h => absurd h List.not_mem_nil⟩⟩⟩⟩⟩⟩⟩⟩
def B74_1 : List (Nat × aO) := [(16, oCV 0 1 1), (19, oB1 b_if_ne q_ne 27 22), (22, oLA 0 23), (23, oCV 4 91 0), (26, oRI), (27, oLI 1 28), (28, oLI 2 29), (29, oB2 b_icmp_ne q_ne 37 32)]
theorem B74_1_ok : ∀ q ∈ B74_1, Ok M74 q.1 q.2 := List.forall_mem_cons.mpr ⟨k_74_16, List.forall_mem_cons.mpr ⟨k_74_19, List.forall_mem_cons.mpr ⟨k_74_22, List.forall_mem_cons.mpr ⟨k_74_23, List.forall_mem_cons.mpr ⟨k_74_26, List.forall_mem_cons.mpr ⟨k_74_27, List.forall_mem_cons.mpr ⟨k_74_28, List.forall_mem_cons.mpr ⟨k_74_29, fun _ h => absurd h List.not_mem_nil⟩⟩⟩⟩⟩⟩⟩⟩
def B74_2 : List (Nat × aO) := [(32, oLA 0 33), (33, oCV 4 92 0), (36, oRI), (37, oLA 0 38), (38, oGe 4 3 41), (41, oLA 0 42), (42, oGe 4 1 45), (45, oCV 2 45 1)]
theorem B74_2_ok : ∀ q ∈ B74_2, Ok M74 q.1 q.2 := List.forall_mem_cons.mpr ⟨k_74_32, List.forall_mem_cons.mpr ⟨k_74_33, List.forall_mem_cons.mpr ⟨k_74_36, List.forall_mem_cons.mpr ⟨k_74_37, List.forall_mem_cons.mpr ⟨k_74_38, List.forall_mem_cons.mpr ⟨k_74_41, List.forall_mem_cons.mpr ⟨k_74_42, List.forall_mem_cons.mpr ⟨k_74_45, fun _ h => absurd h List.not_mem_nil⟩⟩⟩⟩⟩⟩⟩⟩
def B74_3 : List (Nat × aO) := [(48, oLA 0 49), (49, oGe 4 1 52), (52, oLI 1 53), (53, oLI 2 54), (54, oCV 0 15 2), (57, oLA 0 58), (58, oCV 4 90 0), (61, oLA 0 62)]
theorem B74_3_ok : ∀ q ∈ B74_3, Ok M74 q.1 q.2 := List.forall_mem_cons.mpr ⟨k_74_48, List.forall_mem_cons.mpr ⟨k_74_49, List.forall_mem_cons.mpr ⟨k_74_52, List.forall_mem_cons.mpr ⟨k_74_53, List.forall_mem_cons.mpr ⟨k_74_54, List.forall_mem_cons.mpr ⟨k_74_57, List.forall_mem_cons.mpr ⟨k_74_58, List.forall_mem_cons.mpr ⟨k_74_61, fun _ h => absurd h List.not_mem_nil⟩⟩⟩⟩⟩⟩⟩⟩
def B74_4 : List (Nat × aO) := [(62, oGe 4 1 65), (65, oGe 0 0 68), (68, oRI)]
theorem B74_4_ok : ∀ q ∈ B74_4, Ok M74 q.1 q.2 := List.forall_mem_cons.mpr ⟨k_74_62, List.forall_mem_cons.mpr ⟨k_74_65, List.forall_mem_cons.mpr ⟨k_74_68, fun _ h => absurd h List.not_mem_nil⟩⟩⟩
def P74 : List (Nat × List (Nat × aO)) := [(15, B74_0), (29, B74_1), (45, B74_2), (61, B74_3), (68, B74_4)]
theorem P74_ok : ∀ b ∈ P74, ∀ q ∈ b.2, Ok M74 q.1 q.2 := List.forall_mem_cons.mpr ⟨B74_0_ok, List.forall_mem_cons.mpr ⟨B74_1_ok, List.forall_mem_cons.mpr ⟨B74_2_ok, List.forall_mem_cons.mpr ⟨B74_3_ok, List.forall_mem_cons.mpr ⟨B74_4_ok, fun _ h => absurd h List.not_mem_nil⟩⟩⟩⟩⟩
theorem k_75_0 : Ok M75 0 (oLA 0 1) := r_aload_n (j := 0) (by decide +kernel) rfl
theorem k_75_1 : Ok M75 1 (oGe 4 1 4) := r_get (idx := 19) (by decide +kernel) cd_4 1 (by decide) w_279 rfl
theorem k_75_4 : Ok M75 4 (oLI 1 5) := r_iload_n (j := 1) (by decide +kernel) rfl
theorem k_75_5 : Ok M75 5 (oCV 0 2 1) := r_callV (idx := 108) (by decide +kernel) w_437 cv_2
theorem k_75_8 : Ok M75 8 (oB1 b_if_eq q_eq 22 11) := r_if_eq (off := 14) (by decide +kernel) (by decide +kernel)
theorem k_75_11 : Ok M75 11 (oLA 0 12) := r_aload_n (j := 0) (by decide +kernel) rfl
theorem k_75_12 : Ok M75 12 (oGe 4 1 15) := r_get (idx := 19) (by decide +kernel) cd_4 1 (by decide) w_279 rfl
theorem k_75_15 : Ok M75 15 (oLI 2 16) := r_iload_n (j := 2) (by decide +kernel) rfl
theorem k_75_16 : Ok M75 16 (oCV 0 2 1) := r_callV (idx := 108) (by decide +kernel) w_437 cv_2
theorem k_75_19 : Ok M75 19 (oB1 b_if_ne q_ne 27 22) := r_if_ne (off := 8) (by decide +kernel) (by decide +kernel)
theorem k_75_22 : Ok M75 22 (oLA 0 23) := r_aload_n (j := 0) (by decide +kernel) rfl
theorem k_75_23 : Ok M75 23 (oCV 4 91 0) := r_callV (idx := 47) (by decide +kernel) w_310 cv_91
theorem k_75_26 : Ok M75 26 (oRI) := r_ireturn rfl (by decide +kernel)
theorem k_75_27 : Ok M75 27 (oLI 1 28) := r_iload_n (j := 1) (by decide +kernel) rfl
theorem k_75_28 : Ok M75 28 (oLI 2 29) := r_iload_n (j := 2) (by decide +kernel) rfl
theorem k_75_29 : Ok M75 29 (oB2 b_icmp_ne q_ne 37 32) := r_icmp_ne (off := 8) (by decide +kernel) (by decide +kernel)
theorem k_75_32 : Ok M75 32 (oLA 0 33) := r_aload_n (j := 0) (by decide +kernel) rfl
theorem k_75_33 : Ok M75 33 (oCV 4 92 0) := r_callV (idx := 135) (by decide +kernel) w_475 cv_92
theorem k_75_36 : Ok M75 36 (oRI) := r_ireturn rfl (by decide +kernel)
theorem k_75_37 : Ok M75 37 (oLA 0 38) := r_aload_n (j := 0) (by decide +kernel) rfl
theorem k_75_38 : Ok M75 38 (oGe 4 3 41) := r_get (idx := 29) (by decide +kernel) cd_4 3 (by decide) w_281 rfl
theorem k_75_41 : Ok M75 41 (oLA 0 42) := r_aload_n (j := 0) (by decide +kernel) rfl
theorem k_75_42 : Ok M75 42 (oGe 4 1 45) := r_get (idx := 19) (by decide +kernel) cd_4 1 (by decide) w_279 rfl
theorem k_75_45 : Ok M75 45 (oCV 2 45 1) := r_callV (idx := 74) (by decide +kernel) w_405 cv_45
theorem k_75_48 : Ok M75 48 (oLA 0 49) := r_aload_n (j := 0) (by decide +kernel) rfl
theorem k_75_49 : Ok M75 49 (oGe 4 1 52) := r_get (idx := 19) (by decide +kernel) cd_4 1 (by decide) w_279 rfl
theorem k_75_52 : Ok M75 52 (oLI 1 53) := r_iload_n (j := 1) (by decide +kernel) rfl
theorem k_75_53 : Ok M75 53 (oLI 2 54) := r_iload_n (j := 2) (by decide +kernel) rfl
theorem k_75_54 : Ok M75 54 (oCV 0 17 2) := r_callV (idx := 152) (by decide +kernel) w_506 cv_17
theorem k_75_57 : Ok M75 57 (oLA 0 58) := r_aload_n (j := 0) (by decide +kernel) rfl
theorem k_75_58 : Ok M75 58 (oCV 4 90 0) := r_callV (idx := 44) (by decide +kernel) w_244 cv_90
theorem k_75_61 : Ok M75 61 (oLA 0 62) := r_aload_n (j := 0) (by decide +kernel) rfl
theorem k_75_62 : Ok M75 62 (oGe 4 1 65) := r_get (idx := 19) (by decide +kernel) cd_4 1 (by decide) w_279 rfl
theorem k_75_65 : Ok M75 65 (oGe 0 2 68) := r_get (idx := 155) (by decide +kernel) cd_0 2 (by decide) w_139 rfl
theorem k_75_68 : Ok M75 68 (oRI) := r_ireturn rfl (by decide +kernel)
def B75_0 : List (Nat × aO) := [(0, oLA 0 1), (1, oGe 4 1 4), (4, oLI 1 5), (5, oCV 0 2 1), (8, oB1 b_if_eq q_eq 22 11), (11, oLA 0 12), (12, oGe 4 1 15), (15, oLI 2 16)]
theorem B75_0_ok : ∀ q ∈ B75_0, Ok M75 q.1 q.2 := List.forall_mem_cons.mpr ⟨k_75_0, List.forall_mem_cons.mpr ⟨k_75_1, List.forall_mem_cons.mpr ⟨k_75_4, List.forall_mem_cons.mpr ⟨k_75_5, List.forall_mem_cons.mpr ⟨k_75_8, List.forall_mem_cons.mpr ⟨k_75_11, List.forall_mem_cons.mpr ⟨k_75_12, List.forall_mem_cons.mpr ⟨k_75_15, fun _ h => absurd h List.not_mem_nil⟩⟩⟩⟩⟩⟩⟩⟩
def B75_1 : List (Nat × aO) := [(16, oCV 0 2 1), (19, oB1 b_if_ne q_ne 27 22), (22, oLA 0 23), (23, oCV 4 91 0), (26, oRI), (27, oLI 1 28), (28, oLI 2 29), (29, oB2 b_icmp_ne q_ne 37 32)]
theorem B75_1_ok : ∀ q ∈ B75_1, Ok M75 q.1 q.2 := List.forall_mem_cons.mpr ⟨k_75_16, List.forall_mem_cons.mpr ⟨k_75_19, List.forall_mem_cons.mpr ⟨k_75_22, List.forall_mem_cons.mpr ⟨k_75_23, List.forall_mem_cons.mpr ⟨k_75_26, List.forall_mem_cons.mpr ⟨k_75_27, List.forall_mem_cons.mpr ⟨k_75_28, List.forall_mem_cons.mpr ⟨k_75_29, fun _ h => absurd h List.not_mem_nil⟩⟩⟩⟩⟩⟩⟩⟩
def B75_2 : List (Nat × aO) := [(32, oLA 0 33), (33, oCV 4 92 0), (36, oRI), (37, oLA 0 38), (38, oGe 4 3 41), (41, oLA 0 42), (42, oGe 4 1 45), (45, oCV 2 45 1)]
theorem B75_2_ok : ∀ q ∈ B75_2, Ok M75 q.1 q.2 := List.forall_mem_cons.mpr ⟨k_75_32, List.forall_mem_cons.mpr ⟨k_75_33, List.forall_mem_cons.mpr ⟨k_75_36, List.forall_mem_cons.mpr ⟨k_75_37, List.forall_mem_cons.mpr ⟨k_75_38, List.forall_mem_cons.mpr ⟨k_75_41, List.forall_mem_cons.mpr ⟨k_75_42, List.forall_mem_cons.mpr ⟨k_75_45, fun _ h => absurd h List.not_mem_nil⟩⟩⟩⟩⟩⟩⟩⟩
def B75_3 : List (Nat × aO) := [(48, oLA 0 49), (49, oGe 4 1 52), (52, oLI 1 53), (53, oLI 2 54), (54, oCV 0 17 2), (57, oLA 0 58), (58, oCV 4 90 0), (61, oLA 0 62)]
theorem B75_3_ok : ∀ q ∈ B75_3, Ok M75 q.1 q.2 := List.forall_mem_cons.mpr ⟨k_75_48, List.forall_mem_cons.mpr ⟨k_75_49, List.forall_mem_cons.mpr ⟨k_75_52, List.forall_mem_cons.mpr ⟨k_75_53, List.forall_mem_cons.mpr ⟨k_75_54, List.forall_mem_cons.mpr ⟨k_75_57, List.forall_mem_cons.mpr ⟨k_75_58, List.forall_mem_cons.mpr ⟨k_75_61, fun _ h => absurd h List.not_mem_nil⟩⟩⟩⟩⟩⟩⟩⟩
def B75_4 : List (Nat × aO) := [(62, oGe 4 1 65), (65, oGe 0 2 68), (68, oRI)]
theorem B75_4_ok : ∀ q ∈ B75_4, Ok M75 q.1 q.2 := List.forall_mem_cons.mpr ⟨k_75_62, List.forall_mem_cons.mpr ⟨k_75_65, List.forall_mem_cons.mpr ⟨k_75_68, fun _ h => absurd h List.not_mem_nil⟩⟩⟩
def P75 : List (Nat × List (Nat × aO)) := [(15, B75_0), (29, B75_1), (45, B75_2), (61, B75_3), (68, B75_4)]
theorem P75_ok : ∀ b ∈ P75, ∀ q ∈ b.2, Ok M75 q.1 q.2 := List.forall_mem_cons.mpr ⟨B75_0_ok, List.forall_mem_cons.mpr ⟨B75_1_ok, List.forall_mem_cons.mpr ⟨B75_2_ok, List.forall_mem_cons.mpr ⟨B75_3_ok, List.forall_mem_cons.mpr ⟨B75_4_ok, fun _ h => absurd h List.not_mem_nil⟩⟩⟩⟩⟩
theorem k_76_0 : Ok M76 0 (oLA 0 1) := r_aload_n (j := 0) (by decide +kernel) rfl
theorem k_76_1 : Ok M76 1 (oGe 4 1 4) := r_get (idx := 19) (by decide +kernel) cd_4 1 (by decide) w_279 rfl
theorem k_76_4 : Ok M76 4 (oLI 1 5) := r_iload_n (j := 1) (by decide +kernel) rfl
theorem k_76_5 : Ok M76 5 (oCV 0 1 1) := r_callV (idx := 88) (by decide +kernel) w_428 cv_1
theorem k_76_8 : Ok M76 8 (oB1 b_if_ne q_ne 16 11) := r_if_ne (off := 8) (by decide +kernel) (by decide +kernel)
theorem k_76_11 : Ok M76 11 (oLA 0 12) := r_aload_n (j := 0) (by decide +kernel) rfl
theorem k_76_12 : Ok M76 12 (oCV 4 91 0) := r_callV (idx := 47) (by decide +kernel) w_310 cv_91
theorem k_76_15 : Ok M76 15 (oRI) := r_ireturn rfl (by decide +kernel)
theorem k_76_16 : Ok M76 16 (oLA 0 17) := r_aload_n (j := 0) (by decide +kernel) rfl
theorem k_76_17 : Ok M76 17 (oGe 4 1 20) := r_get (idx := 19) (by decide +kernel) cd_4 1 (by decide) w_279 rfl
theorem k_76_20 : Ok M76 20 (oLI 1 21) := r_iload_n (j := 1) (by decide +kernel) rfl
theorem k_76_21 : Ok M76 21 (oCV 0 25 1) := r_callV (idx := 158) (by decide +kernel) w_522 cv_25
theorem k_76_24 : Ok M76 24 (oB1 b_if_ne q_ne 32 27) := r_if_ne (off := 8) (by decide +kernel) (by decide +kernel)
theorem k_76_27 : Ok M76 27 (oLA 0 28) := r_aload_n (j := 0) (by decide +kernel) rfl
theorem k_76_28 : Ok M76 28 (oCV 4 92 0) := r_callV (idx := 135) (by decide +kernel) w_475 cv_92
theorem k_76_31 : Ok M76 31 (oRI) := r_ireturn rfl (by decide +kernel)
theorem k_76_32 : Ok M76 32 (oLA 0 33) := r_aload_n (j := 0) (by decide +kernel) rfl
theorem k_76_33 : Ok M76 33 (oGe 4 3 36) := r_get (idx := 29) (by decide +kernel) cd_4 3 (by decide) w_281 rfl
theorem k_76_36 : Ok M76 36 (oLA 0 37) := r_aload_n (j := 0) (by decide +kernel) rfl
theorem k_76_37 : Ok M76 37 (oGe 4 1 40) := r_get (idx := 19) (by decide +kernel) cd_4 1 (by decide) w_279 rfl
theorem k_76_40 : Ok M76 40 (oCV 2 45 1) := r_callV (idx := 74) (by decide +kernel) w_405 cv_45
theorem k_76_43 : Ok M76 43 (oLA 0 44) := r_aload_n (j := 0) (by decide +kernel) rfl
theorem k_76_44 : Ok M76 44 (oGe 4 1 47) := r_get (idx := 19) (by decide +kernel) cd_4 1 (by decide) w_279 rfl
theorem k_76_47 : Ok M76 47 (oLI 1 48) := r_iload_n (j := 1) (by decide +kernel) rfl
theorem k_76_48 : Ok M76 48 (oCV 0 26 1) := r_callV (idx := 161) (by decide +kernel) w_526 cv_26
theorem k_76_51 : Ok M76 51 (oRI) := r_ireturn rfl (by decide +kernel)
def B76_0 : List (Nat × aO) := [(0, oLA 0 1), (1, oGe 4 1 4), (4, oLI 1 5), (5, oCV 0 1 1), (8, oB1 b_if_ne q_ne 16 11), (11, oLA 0 12), (12, oCV 4 91 0), (15, oRI)]
theorem B76_0_ok : ∀ q ∈ B76_0, Ok M76 q.1 q.2 := List.forall_mem_cons.mpr ⟨k_76_0, List.forall_mem_cons.mpr ⟨k_76_1, List.forall_mem_cons.mpr ⟨k_76_4, List.forall_mem_cons.mpr ⟨k_76_5, List.forall_mem_cons.mpr ⟨k_76_8, List.forall_mem_cons.mpr ⟨k_76_11, List.forall_mem_cons.mpr ⟨k_76_12, List.forall_mem_cons.mpr ⟨k_76_15, fun _ h => absurd h List.not_mem_nil⟩⟩⟩⟩⟩⟩⟩⟩
def B76_1 : List (Nat × aO) := [(16, oLA 0 17), (17, oGe 4 1 20), (20, oLI 1 21), (21, oCV 0 25 1), (24, oB1 b_if_ne q_ne 32 27), (27, oLA 0 28), (28, oCV 4 92 0), (31, oRI)]
theorem B76_1_ok : ∀ q ∈ B76_1, Ok M76 q.1 q.2 := List.forall_mem_cons.mpr ⟨k_76_16, List.forall_mem_cons.mpr ⟨k_76_17, List.forall_mem_cons.mpr ⟨k_76_20, List.forall_mem_cons.mpr ⟨k_76_21, List.forall_mem_cons.mpr ⟨k_76_24, List.forall_mem_cons.mpr ⟨k_76_27, List.forall_mem_cons.mpr ⟨k_76_28, List.forall_mem_cons.mpr ⟨k_76_31, fun _ h => absurd h List.not_mem_nil⟩⟩⟩⟩⟩⟩⟩⟩
def B76_2 : List (Nat × aO) := [(32, oLA 0 33), (33, oGe 4 3 36), (36, oLA 0 37), (37, oGe 4 1 40), (40, oCV 2 45 1), (43, oLA 0 44), (44, oGe 4 1 47), (47, oLI 1 48)]
theorem B76_2_ok : ∀ q ∈ B76_2, Ok M76 q.1 q.2 := List.forall_mem_cons.mpr ⟨k_76_32, List.forall_mem_cons.mpr ⟨k_76_33, List.forall_mem_cons.mpr ⟨k_76_36, List.forall_mem_cons.mpr ⟨k_76_37, List.forall_mem_cons.mpr ⟨k_76_40, List.forall_mem_cons.mpr ⟨k_76_43, List.forall_mem_cons.mpr ⟨k_76_44, List.forall_mem_cons.mpr ⟨k_76_47, fun _ h => absurd h List.not_mem_nil⟩⟩⟩⟩⟩⟩⟩⟩
def B76_3 : List (Nat × aO) := [(48, oCV 0 26 1), (51, oRI)]
theorem B76_3_ok : ∀ q ∈ B76_3, Ok M76 q.1 q.2 := List.forall_mem_cons.mpr ⟨k_76_48, List.forall_mem_cons.mpr ⟨k_76_51, fun _ h => absurd h List.not_mem_nil⟩⟩
def P76 : List (Nat × List (Nat × aO)) := [(15, B76_0), (31, B76_1), (47, B76_2), (51, B76_3)]
theorem P76_ok : ∀ b ∈ P76, ∀ q ∈ b.2, Ok M76 q.1 q.2 := List.forall_mem_cons.mpr ⟨B76_0_ok, List.forall_mem_cons.mpr ⟨B76_1_ok, List.forall_mem_cons.mpr ⟨B76_2_ok, List.forall_mem_cons.mpr ⟨B76_3_ok, fun _ h => absurd h List.not_mem_nil⟩⟩⟩⟩
theorem k_77_0 : Ok M77 0 (oLA 0 1) := r_aload_n (j := 0) (by decide +kernel) rfl
theorem k_77_1 : Ok M77 1 (oGe 4 1 4) := r_get (idx := 19) (by decide +kernel) cd_4 1 (by decide) w_279 rfl
theorem k_77_4 : Ok M77 4 (oLI 1 5) := r_iload_n (j := 1) (by decide +kernel) rfl
theorem k_77_5 : Ok M77 5 (oCV 0 2 1) := r_callV (idx := 108) (by decide +kernel) w_437 cv_2
theorem k_77_8 : Ok M77 8 (oB1 b_if_ne q_ne 16 11) := r_if_ne (off := 8) (by decide +kernel) (by decide +kernel)
theorem k_77_11 : Ok M77 11 (oLA 0 12) := r_aload_n (j := 0) (by decide +kernel) rfl
theorem k_77_12 : Ok M77 12 (oCV 4 91 0) := r_callV (idx := 47) (by decide +kernel) w_310 cv_91
theorem k_77_15 : Ok M77 15 (oRI) := r_ireturn rfl (by decide +kernel)
theorem k_77_16 : Ok M77 16 (oLA 0 17) := r_aload_n (j := 0) (by decide +kernel) rfl
theorem k_77_17 : Ok M77 17 (oGe 4 1 20) := r_get (idx := 19) (by decide +kernel) cd_4 1 (by decide) w_279 rfl
theorem k_77_20 : Ok M77 20 (oLI 1 21) := r_iload_n (j := 1) (by decide +kernel) rfl
theorem k_77_21 : Ok M77 21 (oCV 0 27 1) := r_callV (idx := 164) (by decide +kernel) w_534 cv_27
theorem k_77_24 : Ok M77 24 (oB1 b_if_ne q_ne 32 27) := r_if_ne (off := 8) (by decide +kernel) (by decide +kernel)
theorem k_77_27 : Ok M77 27 (oLA 0 28) := r_aload_n (j := 0) (by decide +kernel) rfl
theorem k_77_28 : Ok M77 28 (oCV 4 92 0) := r_callV (idx := 135) (by decide +kernel) w_475 cv_92
theorem k_77_31 : Ok M77 31 (oRI) := r_ireturn rfl (by decide +kernel)
theorem k_77_32 : Ok M77 32 (oLA 0 33) := r_aload_n (j := 0) (by decide +kernel) rfl
theorem k_77_33 : Ok M77 33 (oGe 4 3 36) := r_get (idx := 29) (by decide +kernel) cd_4 3 (by decide) w_281 rfl
theorem k_77_36 : Ok M77 36 (oLA 0 37) := r_aload_n (j := 0) (by decide +kernel) rfl
theorem k_77_37 : Ok M77 37 (oGe 4 1 40) := r_get (idx := 19) (by decide +kernel) cd_4 1 (by decide) w_279 rfl
theorem k_77_40 : Ok M77 40 (oCV 2 45 1) := r_callV (idx := 74) (by decide +kernel) w_405 cv_45
theorem k_77_43 : Ok M77 43 (oLA 0 44) := r_aload_n (j := 0) (by decide +kernel) rfl
theorem k_77_44 : Ok M77 44 (oGe 4 1 47) := r_get (idx := 19) (by decide +kernel) cd_4 1 (by decide) w_279 rfl
theorem k_77_47 : Ok M77 47 (oLI 1 48) := r_iload_n (j := 1) (by decide +kernel) rfl
theorem k_77_48 : Ok M77 48 (oCV 0 28 1) := r_callV (idx := 167) (by decide +kernel) w_543 cv_28
theorem k_77_51 : Ok M77 51 (oRI) := r_ireturn rfl (by decide +kernel)
def B77_0 : List (Nat × aO) := [(0, oLA 0 1), (1, oGe 4 1 4), (4, oLI 1 5), (5, oCV 0 2 1), (8, oB1 b_if_ne q_ne 16 11), (11, oLA 0 12), (12, oCV 4 91 0), (15, oRI)]
theorem B77_0_ok : ∀ q ∈ B77_0, Ok M77 q.1 q.2 := List.forall_mem_cons.mpr ⟨k_77_0, List.forall_mem_cons.mpr ⟨k_77_1, List.forall_mem_cons.mpr ⟨k_77_4, List.forall_mem_cons.mpr ⟨k_77_5, List.forall_mem_cons.mpr ⟨k_77_8, List.forall_mem_cons.mpr ⟨k_77_11, List.forall_mem_cons.mpr ⟨k_77_12, List.forall_mem_cons.mpr ⟨k_77_15, fun _ h => absurd h List.not_mem_nil⟩⟩⟩⟩⟩⟩⟩⟩
def B77_1 : List (Nat × aO) := [(16, oLA 0 17), (17, oGe 4 1 20), (20, oLI 1 21), (21, oCV 0 27 1), (24, oB1 b_if_ne q_ne 32 27), (27, oLA 0 28), (28, oCV 4 92 0), (31, oRI)]
theorem B77_1_ok : ∀ q ∈ B77_1, Ok M77 q.1 q.2 := List.forall_mem_cons.mpr ⟨k_77_16, List.forall_mem_cons.mpr ⟨k_77_17, List.forall_mem_cons.mpr ⟨k_77_20, List.forall_mem_cons.mpr ⟨k_77_21, List.forall_mem_cons.mpr ⟨k_77_24, List.forall_mem_cons.mpr ⟨k_77_27, List.forall_mem_cons.mpr ⟨k_77_28, List.forall_mem_cons.mpr ⟨k_77_31, fun _ h => absurd h List.not_mem_nil⟩⟩⟩⟩⟩⟩⟩⟩
def B77_2 : List (Nat × aO) := [(32, oLA 0 33), (33, oGe 4 3 36), (36, oLA 0 37), (37, oGe 4 1 40), (40, oCV 2 45 1), (43, oLA 0 44), (44, oGe 4 1 47), (47, oLI 1 48)]
theorem B77_2_ok : ∀ q ∈ B77_2, Ok M77 q.1 q.2 := List.forall_mem_cons.mpr ⟨k_77_32, List.forall_mem_cons.mpr ⟨k_77_33, List.forall_mem_cons.mpr ⟨k_77_36, List.forall_mem_cons.mpr ⟨k_77_37, List.forall_mem_cons.mpr ⟨k_77_40, List.forall_mem_cons.mpr ⟨k_77_43, List.forall_mem_cons.mpr ⟨k_77_44, List.forall_mem_cons.mpr ⟨k_77_47, fun _ h => absurd h List.not_mem_nil⟩⟩⟩⟩⟩⟩⟩⟩
def B77_3 : List (Nat × aO) := [(48, oCV 0 28 1), (51, oRI)]
theorem B77_3_ok : ∀ q ∈ B77_3, Ok M77 q.1 q.2 := List.forall_mem_cons.mpr ⟨k_77_48, List.forall_mem_cons.mpr ⟨k_77_51, fun _ h => absurd h List.not_mem_nil⟩⟩
def P77 : List (Nat × List (Nat × aO)) := [(15, B77_0), (31, B77_1), (47, B77_2), (51, B77_3)]
theorem P77_ok : ∀ b ∈ P77, ∀ q ∈ b.2, Ok M77 q.1 q.2 := List.forall_mem_cons.mpr ⟨B77_0_ok, List.forall_mem_cons.mpr ⟨B77_1_ok, List.forall_mem_cons.mpr ⟨B77_2_ok, List.forall_mem_cons.mpr ⟨B77_3_ok, fun _ h => absurd h List.not_mem_nil⟩⟩⟩⟩
theorem k_78_0 : Ok M78 0 (oLA 0 1) := r_aload_n (j := 0) (by decide +kernel) rfl
theorem k_78_1 : Ok M78 1 (oGe 4 1 4) := r_get (idx := 19) (by decide +kernel) cd_4 1 (by decide) w_279 rfl
theorem k_78_4 : Ok M78 4 (oLI 1 5) := r_iload_n (j := 1) (by decide +kernel) rfl
theorem k_78_5 : Ok M78 5 (oCV 0 2 1) := r_callV (idx := 108) (by decide +kernel) w_437 cv_2
theorem k_78_8 : Ok M78 8 (oB1 b_if_ne q_ne 16 11) := r_if_ne (off := 8) (by decide +kernel) (by decide +kernel)
theorem k_78_11 : Ok M78 11 (oLA 0 12) := r_aload_n (j := 0) (by decide +kernel) rfl
theorem k_78_12 : Ok M78 12 (oCV 4 91 0) := r_callV (idx := 47) (by decide +kernel) w_310 cv_91
theorem k_78_15 : Ok M78 15 (oRI) := r_ireturn rfl (by decide +kernel)
theorem k_78_16 : Ok M78 16 (oLA 0 17) := r_aload_n (j := 0) (by decide +kernel) rfl
theorem k_78_17 : Ok M78 17 (oGe 4 4 20) := r_get (idx := 36) (by decide +kernel) cd_4 4 (by decide) w_282 rfl
theorem k_78_20 : Ok M78 20 (oLA 0 21) := r_aload_n (j := 0) (by decide +kernel) rfl
theorem k_78_21 : Ok M78 21 (oGe 4 1 24) := r_get (idx := 19) (by decide +kernel) cd_4 1 (by decide) w_279 rfl
theorem k_78_24 : Ok M78 24 (oLI 1 25) := r_iload_n (j := 1) (by decide +kernel) rfl
theorem k_78_25 : Ok M78 25 (oLA 0 26) := r_aload_n (j := 0) (by decide +kernel) rfl
theorem k_78_26 : Ok M78 26 (oGe 4 1 29) := r_get (idx := 19) (by decide +kernel) cd_4 1 (by decide) w_279 rfl
theorem k_78_29 : Ok M78 29 (oGe 0 15 32) := r_get (idx := 114) (by decide +kernel) cd_0 15 (by decide) w_164 rfl
theorem k_78_32 : Ok M78 32 (oCV 1 33 3) := r_callV (idx := 170) (by decide +kernel) w_551 cv_33
theorem k_78_35 : Ok M78 35 (oRI) := r_ireturn rfl (by decide +kernel)
def B78_0 : List (Nat × aO) := [(0, oLA 0 1), (1, oGe 4 1 4), (4, oLI 1 5), (5, oCV 0 2 1), (8, oB1 b_if_ne q_ne 16 11), (11, oLA 0 12), (12, oCV 4 91 0), (15, oRI)]
theorem B78_0_ok : ∀ q ∈ B78_0, Ok M78 q.1 q.2 := List.forall_mem_cons.mpr ⟨k_78_0, List.forall_mem_cons.mpr ⟨k_78_1, List.forall_mem_cons.mpr ⟨k_78_4, List.forall_mem_cons.mpr ⟨k_78_5, List.forall_mem_cons.mpr ⟨k_78_8, List.forall_mem_cons.mpr ⟨k_78_11, List.forall_mem_cons.mpr ⟨k_78_12, List.forall_mem_cons.mpr ⟨k_78_15, fun _ h => absurd h List.not_mem_nil⟩⟩⟩⟩⟩⟩⟩⟩
def B78_1 : List (Nat × aO) := [(16, oLA 0 17), (17, oGe 4 4 20), (20, oLA 0 21), (21, oGe 4 1 24), (24, oLI 1 25), (25, oLA 0 26), (26, oGe 4 1 29), (29, oGe 0 15 32)]
theorem B78_1_ok : ∀ q ∈ B78_1, Ok M78 q.1 q.2 := List.forall_mem_cons.mpr ⟨k_78_16, List.forall_mem_cons.mpr ⟨k_78_17, List.forall_mem_cons.mpr ⟨k_78_20, List.forall_mem_cons.mpr ⟨k_78_21, List.forall_mem_cons.mpr ⟨k_78_24, List.forall_mem_cons.mpr ⟨k_78_25, List.forall_mem_cons.mpr ⟨k_78_26, List.forall_mem_cons.mpr ⟨k_78_29, fun _ h => absurd h List.not_mem_nil⟩⟩⟩⟩⟩⟩⟩⟩
def B78_2 : List (Nat × aO) := [(32, oCV 1 33 3), (35, oRI)]
theorem B78_2_ok : ∀ q ∈ B78_2, Ok M78 q.1 q.2 := List.forall_mem_cons.mpr ⟨k_78_32, List.forall_mem_cons.mpr ⟨k_78_35, fun _ h => absurd h List.not_mem_nil⟩⟩
def P78 : List (Nat × List (Nat × aO)) := [(15, B78_0), (29, B78_1), (35, B78_2)]
theorem P78_ok : ∀ b ∈ P78, ∀ q ∈ b.2, Ok M78 q.1 q.2 := List.forall_mem_cons.mpr ⟨B78_0_ok, List.forall_mem_cons.mpr ⟨B78_1_ok, List.forall_mem_cons.mpr ⟨B78_2_ok, fun _ h => absurd h List.not_mem_nil⟩⟩⟩
theorem k_79_0 : Ok M79 0 (oLA 0 1) := r_aload_n (j := 0) (by decide +kernel) rfl
theorem k_79_1 : Ok M79 1 (oGe 4 4 4) := r_get (idx := 36) (by decide +kernel) cd_4 4 (by decide) w_282 rfl
theorem k_79_4 : Ok M79 4 (oLA 0 5) := r_aload_n (j := 0) (by decide +kernel) rfl
theorem k_79_5 : Ok M79 5 (oGe 4 1 8) := r_get (idx := 19) (by decide +kernel) cd_4 1 (by decide) w_279 rfl
theorem k_79_8 : Ok M79 8 (oCV 1 34 1) := r_callV (idx := 174) (by decide +kernel) w_588 cv_34
theorem k_79_11 : Ok M79 11 (oRI) := r_ireturn rfl (by decide +kernel)
def B79_0 : List (Nat × aO) := [(0, oLA 0 1), (1, oGe 4 4 4), (4, oLA 0 5), (5, oGe 4 1 8), (8, oCV 1 34 1), (11, oRI)]
theorem B79_0_ok : ∀ q ∈ B79_0, Ok M79 q.1 q.2 := List.forall_mem_cons.mpr ⟨k_79_0, List.forall_mem_cons.mpr ⟨k_79_1, List.forall_mem_cons.mpr ⟨k_79_4, List.forall_mem_cons.mpr ⟨k_79_5, List.forall_mem_cons.mpr ⟨k_79_8, List.forall_mem_cons.mpr ⟨k_79_11, fun _ h => absurd h List.not_mem_nil⟩⟩⟩⟩⟩⟩
def P79 : List (Nat × List (Nat × aO)) := [(11, B79_0)]
theorem P79_ok : ∀ b ∈ P79, ∀ q ∈ b.2, Ok M79 q.1 q.2 := List.forall_mem_cons.mpr ⟨B79_0_ok, fun _ h => absurd h List.not_mem_nil⟩
theorem k_80_0 : Ok M80 0 (oLA 0 1) := r_aload_n (j := 0) (by decide +kernel) rfl
theorem k_80_1 : Ok M80 1 (oGe 4 1 4) := r_get (idx := 19) (by decide +kernel) cd_4 1 (by decide) w_279 rfl
theorem k_80_4 : Ok M80 4 (oLI 1 5) := r_iload_n (j := 1) (by decide +kernel) rfl
theorem k_80_5 : Ok M80 5 (oCV 0 1 1) := r_callV (idx := 88) (by decide +kernel) w_428 cv_1
theorem k_80_8 : Ok M80 8 (oB1 b_if_ne q_ne 16 11) := r_if_ne (off := 8) (by decide +kernel) (by decide +kernel)
theorem k_80_11 : Ok M80 11 (oLA 0 12) := r_aload_n (j := 0) (by decide +kernel) rfl
theorem k_80_12 : Ok M80 12 (oCV 4 91 0) := r_callV (idx := 47) (by decide +kernel) w_310 cv_91
theorem k_80_15 : Ok M80 15 (oRI) := r_ireturn rfl (by decide +kernel)
theorem k_80_16 : Ok M80 16 (oLA 0 17) := r_aload_n (j := 0) (by decide +kernel) rfl
theorem k_80_17 : Ok M80 17 (oGe 4 1 20) := r_get (idx := 19) (by decide +kernel) cd_4 1 (by decide) w_279 rfl
theorem k_80_20 : Ok M80 20 (oLI 1 21) := r_iload_n (j := 1) (by decide +kernel) rfl
theorem k_80_21 : Ok M80 21 (oCV 0 25 1) := r_callV (idx := 158) (by decide +kernel) w_522 cv_25
theorem k_80_24 : Ok M80 24 (oB1 b_if_ne q_ne 32 27) := r_if_ne (off := 8) (by decide +kernel) (by decide +kernel)
theorem k_80_27 : Ok M80 27 (oLA 0 28) := r_aload_n (j := 0) (by decide +kernel) rfl
theorem k_80_28 : Ok M80 28 (oCV 4 92 0) := r_callV (idx := 135) (by decide +kernel) w_475 cv_92
theorem k_80_31 : Ok M80 31 (oRI) := r_ireturn rfl (by decide +kernel)
theorem k_80_32 : Ok M80 32 (oLA 0 33) := r_aload_n (j := 0) (by decide +kernel) rfl
theorem k_80_33 : Ok M80 33 (oGe 4 4 36) := r_get (idx := 36) (by decide +kernel) cd_4 4 (by decide) w_282 rfl
theorem k_80_36 : Ok M80 36 (oLA 0 37) := r_aload_n (j := 0) (by decide +kernel) rfl
theorem k_80_37 : Ok M80 37 (oGe 4 1 40) := r_get (idx := 19) (by decide +kernel) cd_4 1 (by decide) w_279 rfl
theorem k_80_40 : Ok M80 40 (oLI 1 41) := r_iload_n (j := 1) (by decide +kernel) rfl
theorem k_80_41 : Ok M80 41 (oCV 1 35 2) := r_callV (idx := 178) (by decide +kernel) w_600 cv_35
theorem k_80_44 : Ok M80 44 (oRI) := r_ireturn rfl (by decide +kernel)
def B80_0 : List (Nat × aO) := [(0, oLA 0 1), (1, oGe 4 1 4), (4, oLI 1 5), (5, oCV 0 1 1), (8, oB1 b_if_ne q_ne 16 11), (11, oLA 0 12), (12, oCV 4 91 0), (15, oRI)]
theorem B80_0_ok : ∀ q ∈ B80_0, Ok M80 q.1 q.2 := List.forall_mem_cons.mpr ⟨k_80_0, List.forall_mem_cons.mpr ⟨k_80_1, List.forall_mem_cons.mpr ⟨k_80_4, List.forall_mem_cons.mpr ⟨k_80_5, List.forall_mem_cons.mpr ⟨k_80_8, List.forall_mem_cons.mpr ⟨k_80_11, List.forall_mem_cons.mpr ⟨k_80_12, List.forall_mem_cons.mpr ⟨k_80_15, fun _ h => absurd h List.not_mem_nil⟩⟩⟩⟩⟩⟩⟩⟩
def B80_1 : List (Nat × aO) := [(16, oLA 0 17), (17, oGe 4 1 20), (20, oLI 1 21), (21, oCV 0 25 1), (24, oB1 b_if_ne q_ne 32 27), (27, oLA 0 28), (28, oCV 4 92 0), (31, oRI)]
theorem B80_1_ok : ∀ q ∈ B80_1, Ok M80 q.1 q.2 := List.forall_mem_cons.mpr ⟨k_80_16, List.forall_mem_cons.mpr ⟨k_80_17, List.forall_mem_cons.mpr ⟨k_80_20, List.forall_mem_cons.mpr ⟨k_80_21, List.forall_mem_cons.mpr ⟨k_80_24, List.forall_mem_cons.mpr ⟨k_80_27, List.forall_mem_cons.mpr ⟨k_80_28, List.forall_mem_cons.mpr ⟨k_80_31, fun _ h => absurd h List.not_mem_nil⟩⟩⟩⟩⟩⟩⟩⟩
def B80_2 : List (Nat × aO) := [(32, oLA 0 33), (33, oGe 4 4 36), (36, oLA 0 37), (37, oGe 4 1 40), (40, oLI 1 41), (41, oCV 1 35 2), (44, oRI)]
theorem B80_2_ok : ∀ q ∈ B80_2, Ok M80 q.1 q.2 := List.forall_mem_cons.mpr ⟨k_80_32, List.forall_mem_cons.mpr ⟨k_80_33, List.forall_mem_cons.mpr ⟨k_80_36, List.forall_mem_cons.mpr ⟨k_80_37, List.forall_mem_cons.mpr ⟨k_80_40, List.forall_mem_cons.mpr ⟨k_80_41, List.forall_mem_cons.mpr ⟨k_80_44, fun _ h => absurd h List.not_mem_nil⟩⟩⟩⟩⟩⟩⟩
def P80 : List (Nat × List (Nat × aO)) := [(15, B80_0), (31, B80_1), (44, B80_2)]
theorem P80_ok : ∀ b ∈ P80, ∀ q ∈ b.2, Ok M80 q.1 q.2 := List.forall_mem_cons.mpr ⟨B80_0_ok, List.forall_mem_cons.mpr ⟨B80_1_ok, List.forall_mem_cons.mpr ⟨B80_2_ok, fun _ h => absurd h List.not_mem_nil⟩⟩⟩
theorem k_81_0 : Ok M81 0 (oLA 0 1) := r_aload_n (j := 0) (by decide +kernel) rfl
theorem k_81_1 : Ok M81 1 (oGe 4 1 4) := r_get (idx := 19) (by decide +kernel) cd_4 1 (by decide) w_279 rfl
theorem k_81_4 : Ok M81 4 (oLI 1 5) := r_iload_n (j := 1) (by decide +kernel) rfl
theorem k_81_5 : Ok M81 5 (oCV 0 1 1) := r_callV (idx := 88) (by decide +kernel) w_428 cv_1
theorem k_81_8 : Ok M81 8 (oB1 b_if_eq q_eq 22 11) := r_if_eq (off := 14) (by decide +kernel) (by decide +kernel)
theorem k_81_11 : Ok M81 11 (oLA 0 12) := r_aload_n (j := 0) (by decide +kernel) rfl
theorem k_81_12 : Ok M81 12 (oGe 4 1 15) := r_get (idx := 19) (by decide +kernel) cd_4 1 (by decide) w_279 rfl
theorem k_81_15 : Ok M81 15 (oLI 2 16) := r_iload_n (j := 2) (by decide +kernel) rfl
theorem k_81_16 : Ok M81 16 (oCV 0 2 1) := r_callV (idx := 108) (by decide +kernel) w_437 cv_2
theorem k_81_19 : Ok M81 19 (oB1 b_if_ne q_ne 27 22) := r_if_ne (off := 8) (by decide +kernel) (by decide +kernel)
theorem k_81_22 : Ok M81 22 (oLA 0 23) := r_aload_n (j := 0) (by decide +kernel) rfl
theorem k_81_23 : Ok M81 23 (oCV 4 91 0) := r_callV (idx := 47) (by decide +kernel) w_310 cv_91
theorem k_81_26 : Ok M81 26 (oRI) := r_ireturn rfl (by decide +kernel)
theorem k_81_27 : Ok M81 27 (oLA 0 28) := r_aload_n (j := 0) (by decide +kernel) rfl
theorem k_81_28 : Ok M81 28 (oGe 4 1 31) := r_get (idx := 19) (by decide +kernel) cd_4 1 (by decide) w_279 rfl
theorem k_81_31 : Ok M81 31 (oLI 1 32) := r_iload_n (j := 1) (by decide +kernel) rfl
theorem k_81_32 : Ok M81 32 (oCV 0 25 1) := r_callV (idx := 158) (by decide +kernel) w_522 cv_25
theorem k_81_35 : Ok M81 35 (oB1 b_if_ne q_ne 43 38) := r_if_ne (off := 8) (by decide +kernel) (by decide +kernel)
theorem k_81_38 : Ok M81 38 (oLA 0 39) := r_aload_n (j := 0) (by decide +kernel) rfl
theorem k_81_39 : Ok M81 39 (oCV 4 92 0) := r_callV (idx := 135) (by decide +kernel) w_475 cv_92
theorem k_81_42 : Ok M81 42 (oRI) := r_ireturn rfl (by decide +kernel)
theorem k_81_43 : Ok M81 43 (oLA 0 44) := r_aload_n (j := 0) (by decide +kernel) rfl
theorem k_81_44 : Ok M81 44 (oGe 4 4 47) := r_get (idx := 36) (by decide +kernel) cd_4 4 (by decide) w_282 rfl
theorem k_81_47 : Ok M81 47 (oLA 0 48) := r_aload_n (j := 0) (by decide +kernel) rfl
theorem k_81_48 : Ok M81 48 (oGe 4 1 51) := r_get (idx := 19) (by decide +kernel) cd_4 1 (by decide) w_279 rfl
theorem k_81_51 : Ok M81 51 (oLI 1 52) := r_iload_n (j := 1) (by decide +kernel) rfl
theorem k_81_52 : Ok M81 52 (oLI 2 53) := r_iload_n (j := 2) (by decide +kernel) rfl
theorem k_81_53 : Ok M81 53 (oCV 1 36 3) := r_callV (idx := 182) (by decide +kernel) w_611 cv_36
theorem k_81_56 : Ok M81 56 (oRI) := r_ireturn rfl (by decide +kernel)
def B81_0 : List (Nat × aO) := [(0, oLA 0 1), (1, oGe 4 1 4), (4, oLI 1 5), (5, oCV 0 1 1), (8, oB1 b_if_eq q_eq 22 11), (11, oLA 0 12), (12, oGe 4 1 15), (15, oLI 2 16)]
theorem B81_0_ok : ∀ q ∈ B81_0, Ok M81 q.1 q.2 := List.forall_mem_cons.mpr ⟨k_81_0, List.forall_mem_cons.mpr ⟨k_81_1, List.forall_mem_cons.mpr ⟨k_81_4, List.forall_mem_cons.mpr ⟨k_81_5, List.forall_mem_cons.mpr ⟨k_81_8, List.forall_mem_cons.mpr ⟨k_81_11, List.forall_mem_cons.mpr ⟨k_81_12, List.forall_mem_cons.mpr ⟨k_81_15, fun _ h => absurd h List.not_mem_nil⟩⟩⟩⟩⟩⟩⟩⟩
def B81_1 : List (Nat × aO) := [(16, oCV 0 2 1), (19, oB1 b_if_ne q_ne 27 22), (22, oLA 0 23), (23, oCV 4 91 0), (26, oRI), (27, oLA 0 28), (28, oGe 4 1 31), (31, oLI 1 32)]
theorem B81_1_ok : ∀ q ∈ B81_1, Ok M81 q.1 q.2 := List.forall_mem_cons.mpr ⟨k_81_16, List.forall_mem_cons.mpr ⟨k_81_19, List.forall_mem_cons.mpr ⟨k_81_22, List.forall_mem_cons.mpr ⟨k_81_23, List.forall_mem_cons.mpr ⟨k_81_26, List.forall_mem_cons.mpr ⟨k_81_27, List.forall_mem_cons.mpr ⟨k_81_28, List.forall_mem_cons.mpr ⟨k_81_31, fun _ h => absurd h List.not_mem_nil⟩⟩⟩⟩⟩⟩⟩⟩
def B81_2 : List (Nat × aO) := [(32, oCV 0 25 1), (35, oB1 b_if_ne q_ne 43 38), (38, oLA 0 39), (39, oCV 4 92 0), (42, oRI), (43, oLA 0 44), (44, oGe 4 4 47), (47, oLA 0 48)]
theorem B81_2_ok : ∀ q ∈ B81_2, Ok M81 q.1 q.2 := List.forall_mem_cons.mpr ⟨k_81_32, List.forall_mem_cons.mpr ⟨k_81_35, List.forall_mem_cons.mpr ⟨k_81_38, List.forall_mem_cons.mpr ⟨k_81_39, List.forall_mem_cons.mpr ⟨k_81_42, List.forall_mem_cons.mpr ⟨k_81_43, List.forall_mem_cons.mpr ⟨k_81_44, List.forall_mem_cons.mpr ⟨k_81_47, fun _ h => absurd h List.not_mem_nil⟩⟩⟩⟩⟩⟩⟩⟩
def B81_3 : List (Nat × aO) := [(48, oGe 4 1 51), (51, oLI 1 52), (52, oLI 2 53), (53, oCV 1 36 3), (56, oRI)]
theorem B81_3_ok : ∀ q ∈ B81_3, Ok M81 q.1 q.2 := List.forall_mem_cons.mpr ⟨k_81_48, List.forall_mem_cons.mpr ⟨k_81_51, List.forall_mem_cons.mpr ⟨k_81_52, List.forall_mem_cons.mpr ⟨k_81_53, List.forall_mem_cons.mpr ⟨k_81_56, fun _ h => absurd h List.not_mem_nil⟩⟩⟩⟩⟩
def P81 : List (Nat × List (Nat × aO)) := [(15, B81_0), (31, B81_1), (47, B81_2), (56, B81_3)]
theorem P81_ok : ∀ b ∈ P81, ∀ q ∈ b.2, Ok M81 q.1 q.2 := List.forall_mem_cons.mpr ⟨B81_0_ok, List.forall_mem_cons.mpr ⟨B81_1_ok, List.forall_mem_cons.mpr ⟨B81_2_ok, List.forall_mem_cons.mpr ⟨B81_3_ok, fun _ h => absurd h List.not_mem_nil⟩⟩⟩⟩
theorem k_82_0 : Ok M82 0 (oLI 1 1) := r_iload_n (j := 1) (by decide +kernel) rfl
theorem k_82_1 : Ok M82 1 (oB1 b_if_ge q_ge 9 4) := r_if_ge (off := 8) (by decide +kernel) (by decide +kernel)
theorem k_82_4 : Ok M82 4 (oLA 0 5) := r_aload_n (j := 0) (by decide +kernel) rfl
theorem k_82_5 : Ok M82 5 (oCV 4 91 0) := r_callV (idx := 47) (by decide +kernel) w_310 cv_91
theorem k_82_8 : Ok M82 8 (oRI) := r_ireturn rfl (by decide +kernel)
theorem k_82_9 : Ok M82 9 (oLA 0 10) := r_aload_n (j := 0) (by decide +kernel) rfl
theorem k_82_10 : Ok M82 10 (oGe 4 4 13) := r_get (idx := 36) (by decide +kernel) cd_4 4 (by decide) w_282 rfl
theorem k_82_13 : Ok M82 13 (oLA 0 14) := r_aload_n (j := 0) (by decide +kernel) rfl
theorem k_82_14 : Ok M82 14 (oGe 4 1 17) := r_get (idx := 19) (by decide +kernel) cd_4 1 (by decide) w_279 rfl
theorem k_82_17 : Ok M82 17 (oLI 1 18) := r_iload_n (j := 1) (by decide +kernel) rfl
theorem k_82_18 : Ok M82 18 (oCV 1 43 2) := r_callV (idx := 185) (by decide +kernel) w_619 cv_43
theorem k_82_21 : Ok M82 21 (oRI) := r_ireturn rfl (by decide +kernel)
def B82_0 : List (Nat × aO) := [(0, oLI 1 1), (1, oB1 b_if_ge q_ge 9 4), (4, oLA 0 5), (5, oCV 4 91 0), (8, oRI), (9, oLA 0 10), (10, oGe 4 4 13), (13, oLA 0 14)]
theorem B82_0_ok : ∀ q ∈ B82_0, Ok M82 q.1 q.2 := List.forall_mem_cons.mpr ⟨k_82_0, List.forall_mem_cons.mpr ⟨k_82_1, List.forall_mem_cons.mpr ⟨k_82_4, List.forall_mem_cons.mpr ⟨k_82_5, List.forall_mem_cons.mpr ⟨k_82_8, List.forall_mem_cons.mpr ⟨k_82_9, List.forall_mem_cons.mpr ⟨k_82_10, List.forall_mem_cons.mpr ⟨k_82_13, fun _ h => absurd h List.not_mem_nil⟩⟩⟩⟩⟩⟩⟩⟩
def B82_1 : List (Nat × aO) := [(14, oGe 4 1 17), (17, oLI 1 18), (18, oCV 1 43 2), (21, oRI)]
theorem B82_1_ok : ∀ q ∈ B82_1, Ok M82 q.1 q.2 := List.forall_mem_cons.mpr ⟨k_82_14, List.forall_mem_cons.mpr ⟨k_82_17, List.forall_mem_cons.mpr ⟨k_82_18, List.forall_mem_cons.mpr ⟨k_82_21, fun _ h => absurd h List.not_mem_nil⟩⟩⟩⟩
def P82 : List (Nat × List (Nat × aO)) := [(13, B82_0), (21, B82_1)]
theorem P82_ok : ∀ b ∈ P82, ∀ q ∈ b.2, Ok M82 q.1 q.2 := List.forall_mem_cons.mpr ⟨B82_0_ok, List.forall_mem_cons.mpr ⟨B82_1_ok, fun _ h => absurd h List.not_mem_nil⟩⟩
theorem k_83_0 : Ok M83 0 (oLA 0 1) := r_aload_n (j := 0) (by decide +kernel) rfl
theorem k_83_1 : Ok M83 1 (oGe 4 1 4) := r_get (idx := 19) (by decide +kernel) cd_4 1 (by decide) w_279 rfl
theorem k_83_4 : Ok M83 4 (oLI 1 5) := r_iload_n (j := 1) (by decide +kernel) rfl
theorem k_83_5 : Ok M83 5 (oCV 0 2 1) := r_callV (idx := 108) (by decide +kernel) w_437 cv_2
theorem k_83_8 : Ok M83 8 (oB1 b_if_ne q_ne 16 11) := r_if_ne (off := 8) (by decide +kernel) (by decide +kernel)
theorem k_83_11 : Ok M83 11 (oLA 0 12) := r_aload_n (j := 0) (by decide +kernel) rfl
theorem k_83_12 : Ok M83 12 (oCV 4 91 0) := r_callV (idx := 47) (by decide +kernel) w_310 cv_91
theorem k_83_15 : Ok M83 15 (oRI) := r_ireturn rfl (by decide +kernel)
theorem k_83_16 : Ok M83 16 (oLA 0 17) := r_aload_n (j := 0) (by decide +kernel) rfl
theorem k_83_17 : Ok M83 17 (oGe 4 1 20) := r_get (idx := 19) (by decide +kernel) cd_4 1 (by decide) w_279 rfl
theorem k_83_20 : Ok M83 20 (oLI 1 21) := r_iload_n (j := 1) (by decide +kernel) rfl
theorem k_83_21 : Ok M83 21 (oCV 0 29 1) := r_callV (idx := 188) (by decide +kernel) w_627 cv_29
theorem k_83_24 : Ok M83 24 (oRI) := r_ireturn rfl (by decide +kernel)
def B83_0 : List (Nat × aO) := [(0, oLA 0 1), (1, oGe 4 1 4), (4, oLI 1 5), (5, oCV 0 2 1), (8, oB1 b_if_ne q_ne 16 11), (11, oLA 0 12), (12, oCV 4 91 0), (15, oRI)]
theorem B83_0_ok : ∀ q ∈ B83_0, Ok M83 q.1 q.2 := List.forall_mem_cons.mpr ⟨k_83_0, List.forall_mem_cons.mpr ⟨k_83_1, List.forall_mem_cons.mpr ⟨k_83_4, List.forall_mem_cons.mpr ⟨k_83_5, List.forall_mem_cons.mpr ⟨k_83_8, List.forall_mem_cons.mpr ⟨k_83_11, List.forall_mem_cons.mpr ⟨k_83_12, List.forall_mem_cons.mpr ⟨k_83_15, fun _ h => absurd h List.not_mem_nil⟩⟩⟩⟩⟩⟩⟩⟩
def B83_1 : List (Nat × aO) := [(16, oLA 0 17), (17, oGe 4 1 20), (20, oLI 1 21), (21, oCV 0 29 1), (24, oRI)]
theorem B83_1_ok : ∀ q ∈ B83_1, Ok M83 q.1 q.2 := List.forall_mem_cons.mpr ⟨k_83_16, List.forall_mem_cons.mpr ⟨k_83_17, List.forall_mem_cons.mpr ⟨k_83_20, List.forall_mem_cons.mpr ⟨k_83_21, List.forall_mem_cons.mpr ⟨k_83_24, fun _ h => absurd h List.not_mem_nil⟩⟩⟩⟩⟩
def P83 : List (Nat × List (Nat × aO)) := [(15, B83_0), (24, B83_1)]
theorem P83_ok : ∀ b ∈ P83, ∀ q ∈ b.2, Ok M83 q.1 q.2 := List.forall_mem_cons.mpr ⟨B83_0_ok, List.forall_mem_cons.mpr ⟨B83_1_ok, fun _ h => absurd h List.not_mem_nil⟩⟩
theorem k_84_0 : Ok M84 0 (oLA 0 1) := r_aload_n (j := 0) (by decide +kernel) rfl
theorem k_84_1 : Ok M84 1 (oGe 4 1 4) := r_get (idx := 19) (by decide +kernel) cd_4 1 (by decide) w_279 rfl
theorem k_84_4 : Ok M84 4 (oLI 1 5) := r_iload_n (j := 1) (by decide +kernel) rfl
theorem k_84_5 : Ok M84 5 (oCV 0 2 1) := r_callV (idx := 108) (by decide +kernel) w_437 cv_2
theorem k_84_8 : Ok M84 8 (oB1 b_if_ne q_ne 16 11) := r_if_ne (off := 8) (by decide +kernel) (by decide +kernel)
theorem k_84_11 : Ok M84 11 (oLA 0 12) := r_aload_n (j := 0) (by decide +kernel) rfl
theorem k_84_12 : Ok M84 12 (oCV 4 91 0) := r_callV (idx := 47) (by decide +kernel) w_310 cv_91
theorem k_84_15 : Ok M84 15 (oRI) := r_ireturn rfl (by decide +kernel)
theorem k_84_16 : Ok M84 16 (oLI 2 17) := r_iload_n (j := 2) (by decide +kernel) rfl
theorem k_84_17 : Ok M84 17 (oTb [44, 70, 84] 108) := r_table (dflt := 91) (hi := 2) (offs := #[27, 53, 67]) (len := 27) (by decide +kernel) (by decide +kernel) (by decide +kernel) (by decide +kernel)
theorem k_84_44 : Ok M84 44 (oLA 0 45) := r_aload_n (j := 0) (by decide +kernel) rfl
theorem k_84_45 : Ok M84 45 (oGe 4 4 48) := r_get (idx := 36) (by decide +kernel) cd_4 4 (by decide) w_282 rfl
theorem k_84_48 : Ok M84 48 (oLA 0 49) := r_aload_n (j := 0) (by decide +kernel) rfl
theorem k_84_49 : Ok M84 49 (oGe 4 1 52) := r_get (idx := 19) (by decide +kernel) cd_4 1 (by decide) w_279 rfl
theorem k_84_52 : Ok M84 52 (oLI 1 53) := r_iload_n (j := 1) (by decide +kernel) rfl
theorem k_84_53 : Ok M84 53 (oLA 0 54) := r_aload_n (j := 0) (by decide +kernel) rfl
theorem k_84_54 : Ok M84 54 (oGe 4 1 57) := r_get (idx := 19) (by decide +kernel) cd_4 1 (by decide) w_279 rfl
theorem k_84_57 : Ok M84 57 (oGe 0 15 60) := r_get (idx := 114) (by decide +kernel) cd_0 15 (by decide) w_164 rfl
theorem k_84_60 : Ok M84 60 (oS (gKo (.int 1)) 61) := r_iconst (n := 1) (by decide +kernel) (by decide +kernel)
theorem k_84_61 : Ok M84 61 (oLI 1 62) := r_iload_n (j := 1) (by decide +kernel) rfl
theorem k_84_62 : Ok M84 62 (oS (gI2 f_ishl) 63) := r_ishl (by decide +kernel)
theorem k_84_63 : Ok M84 63 (oS (gKo (.int (-1))) 64) := r_iconst (n := (-1)) (by decide +kernel) (by decide +kernel)
theorem k_84_64 : Ok M84 64 (oS (gI2 f_ixor) 65) := r_ixor (by decide +kernel)
theorem k_84_65 : Ok M84 65 (oS (gI2 f_iand) 66) := r_iand (by decide +kernel)
theorem k_84_66 : Ok M84 66 (oCV 1 33 3) := r_callV (idx := 170) (by decide +kernel) w_551 cv_33
theorem k_84_69 : Ok M84 69 (oRI) := r_ireturn rfl (by decide +kernel)
theorem k_84_70 : Ok M84 70 (oLA 0 71) := r_aload_n (j := 0) (by decide +kernel) rfl
theorem k_84_71 : Ok M84 71 (oGe 4 4 74) := r_get (idx := 36) (by decide +kernel) cd_4 4 (by decide) w_282 rfl
theorem k_84_74 : Ok M84 74 (oLA 0 75) := r_aload_n (j := 0) (by decide +kernel) rfl
theorem k_84_75 : Ok M84 75 (oGe 4 1 78) := r_get (idx := 19) (by decide +kernel) cd_4 1 (by decide) w_279 rfl
theorem k_84_78 : Ok M84 78 (oLI 1 79) := r_iload_n (j := 1) (by decide +kernel) rfl
theorem k_84_79 : Ok M84 79 (oS (gKo (.int 0)) 80) := r_iconst (n := 0) (by decide +kernel) (by decide +kernel)
theorem k_84_80 : Ok M84 80 (oCV 1 33 3) := r_callV (idx := 170) (by decide +kernel) w_551 cv_33
theorem k_84_83 : Ok M84 83 (oRI) := r_ireturn rfl (by decide +kernel)
theorem k_84_84 : Ok M84 84 (oLA 0 85) := r_aload_n (j := 0) (by decide +kernel) rfl
theorem k_84_85 : Ok M84 85 (oGe 4 4 88) := r_get (idx := 36) (by decide +kernel) cd_4 4 (by decide) w_282 rfl
theorem k_84_88 : Ok M84 88 (oLA 0 89) := r_aload_n (j := 0) (by decide +kernel) rfl
theorem k_84_89 : Ok M84 89 (oGe 4 1 92) := r_get (idx := 19) (by decide +kernel) cd_4 1 (by decide) w_279 rfl
theorem k_84_92 : Ok M84 92 (oLI 1 93) := r_iload_n (j := 1) (by decide +kernel) rfl
theorem k_84_93 : Ok M84 93 (oS (gKo (.int 1)) 94) := r_iconst (n := 1) (by decide +kernel) (by decide +kernel)
theorem k_84_94 : Ok M84 94 (oLA 0 95) := r_aload_n (j := 0) (by decide +kernel) rfl
theorem k_84_95 : Ok M84 95 (oGe 4 1 98) := r_get (idx := 19) (by decide +kernel) cd_4 1 (by decide) w_279 rfl
theorem k_84_98 : Ok M84 98 (oGe 0 2 101) := r_get (idx := 155) (by decide +kernel) cd_0 2 (by decide) w_139 rfl
theorem k_84_101 : Ok M84 101 (oS (gI2 f_ishl) 102) := r_ishl (by decide +kernel)
theorem k_84_102 : Ok M84 102 (oS (gKo (.int 1)) 103) := r_iconst (n := 1) (by decide +kernel) (by decide +kernel)
theorem k_84_103 : Ok M84 103 (oS (gI2 f_isub) 104) := r_isub (by decide +kernel)
theorem k_84_104 : Ok M84 104 (oCV 1 33 3) := r_callV (idx := 170) (by decide +kernel) w_551 cv_33
theorem k_84_107 : Ok M84 107 (oRI) := r_ireturn rfl (by decide +kernel)
theorem k_84_108 : Ok M84 108 (oLA 0 109) := r_aload_n (j := 0) (by decide +kernel) rfl
theorem k_84_109 : Ok M84 109 (oCV 4 91 0) := r_callV (idx := 47) (by decide +kernel) w_310 cv_91
theorem k_84_112 : Ok M84 112 (oRI) := r_ireturn rfl (by decide +kernel)
def B84_0 : List (Nat × aO) := [(0, oLA 0 1), (1, oGe 4 1 4), (4, oLI 1 5), (5, oCV 0 2 1), (8, oB1 b_if_ne q_ne 16 11), (11, oLA 0 12), (12, oCV 4 91 0), (15, oRI)]
theorem B84_0_ok : ∀ q ∈ B84_0, Ok M84 q.1 q.2 := List.forall_mem_cons.mpr ⟨k_84_0, List.forall_mem_cons.mpr ⟨k_84_1, List.forall_mem_cons.mpr ⟨k_84_4, List.forall_mem_cons.mpr ⟨k_84_5, List.forall_mem_cons.mpr ⟨k_84_8, List.forall_mem_cons.mpr ⟨k_84_11, List.forall_mem_cons.mpr ⟨k_84_12, List.forall_mem_cons.mpr ⟨k_84_15, fun _ h => absurd h List.not_mem_nil⟩⟩⟩⟩⟩⟩⟩⟩
def B84_1 : List (Nat × aO) := [(16, oLI 2 17), (17, oTb [44, 70, 84] 108), (44, oLA 0 45), (45, oGe 4 4 48), (48, oLA 0 49), (49, oGe 4 1 52), (52, oLI 1 53), (53, oLA 0 54)]
theorem B84_1_ok : ∀ q ∈ B84_1, Ok M84 q.1 q.2 := List.forall_mem_cons.mpr ⟨k_84_16, List.forall_mem_cons.mpr ⟨k_84_17, List.forall_mem_cons.mpr ⟨k_84_44, List.forall_mem_cons.mpr ⟨k_84_45, List.forall_mem_cons.mpr ⟨k_84_48, List.forall_mem_cons.mpr ⟨k_84_49, List.forall_mem_cons.mpr ⟨k_84_52, List.forall_mem_cons.mpr ⟨k_84_53, fun _ h => absurd h List.not_mem_nil⟩⟩⟩⟩⟩⟩⟩⟩
def B84_2 : List (Nat × aO) := [(54, oGe 4 1 57), (57, oGe 0 15 60), (60, oS (gKo (.int 1)) 61), (61, oLI 1 62), (62, oS (gI2 f_ishl) 63), (63, oS (gKo (.int (-1))) 64), (64, oS (gI2 f_ixor) 65), (65, oS (gI2 f_iand) 66)]
theorem B84_2_ok : ∀ q ∈ B84_2, Ok M84 q.1 q.2 := List.forall_mem_cons.mpr ⟨k_84_54, List.forall_mem_cons.mpr ⟨k_84_57, List.forall_mem_cons.mpr ⟨k_84_60, List.forall_mem_cons.mpr ⟨k_84_61, List.forall_mem_cons.mpr ⟨k_84_62, List.forall_mem_cons.mpr ⟨k_84_63, List.forall_mem_cons.mpr ⟨k_84_64, List.forall_mem_cons.mpr ⟨k_84_65, fun _ h => absurd h List.not_mem_nil⟩⟩⟩⟩⟩⟩⟩⟩
def B84_3 : List (Nat × aO) := [(66, oCV 1 33 3), (69, oRI), (70, oLA 0 71), (71, oGe 4 4 74), (74, oLA 0 75), (75, oGe 4 1 78), (78, oLI 1 79), (79, oS (gKo (.int 0)) 80)]
theorem B84_3_ok : ∀ q ∈ B84_3, Ok M84 q.1 q.2 := List.forall_mem_cons.mpr ⟨k_84_66, List.forall_mem_cons.mpr ⟨k_84_69, List.forall_mem_cons.mpr ⟨k_84_70, List.forall_mem_cons.mpr ⟨k_84_71, List.forall_mem_cons.mpr ⟨k_84_74, List.forall_mem_cons.mpr ⟨k_84_75, List.forall_mem_cons.mpr ⟨k_84_78, List.forall_mem_cons.mpr ⟨k_84_79, fun _ h => absurd h List.not_mem_nil⟩⟩⟩⟩⟩⟩⟩⟩
def B84_4 : List (Nat × aO) := [(80, oCV 1 33 3), (83, oRI), (84, oLA 0 85), (85, oGe 4 4 88), (88, oLA 0 89), (89, oGe 4 1 92), (92, oLI 1 93), (93, oS (gKo (.int 1)) 94)]
theorem B84_4_ok : ∀ q ∈ B84_4, Ok M84 q.1 q.2 := List.forall_mem_cons.mpr ⟨k_84_80, List.forall_mem_cons.mpr ⟨k_84_83, List.forall_mem_cons.mpr ⟨k_84_84, List.forall_mem_cons.mpr ⟨k_84_85, List.forall_mem_cons.mpr ⟨k_84_88, List.forall_mem_cons.mpr ⟨k_84_89, List.forall_mem_cons.mpr ⟨k_84_92, List.forall_mem_cons.mpr ⟨k_84_93, fun _ h => absurd h List.not_mem_nil⟩⟩⟩⟩⟩⟩⟩⟩
def B84_5 : List (Nat × aO) := [(94, oLA 0 95), (95, oGe 4 1 98), (98, oGe 0 2 101), (101, oS (gI2 f_ishl) 102), (102, oS (gKo (.int 1)) 103), (103, oS (gI2 f_isub) 104), (104, oCV 1 33 3), (107, oRI)]
theorem B84_5_ok : ∀ q ∈ B84_5, Ok M84 q.1 q.2 := List.forall_mem_cons.mpr ⟨k_84_94, List.forall_mem_cons.mpr ⟨k_84_95, List.forall_mem_cons.mpr ⟨k_84_98, List.forall_mem_cons.mpr ⟨k_84_101, List.forall_mem_cons.mpr ⟨k_84_102, List.forall_mem_cons.mpr ⟨k_84_103, List.forall_mem_cons.mpr ⟨k_84_104, List.forall_mem_cons.mpr ⟨k_84_107, fun _ h => absurd h List.not_mem_nil⟩⟩⟩⟩⟩⟩⟩⟩
def B84_6 : List (Nat × aO) := [(108, oLA 0 109), (109, oCV 4 91 0), (112, oRI)]
theorem B84_6_ok : ∀ q ∈ B84_6, Ok M84 q.1 q.2 := List.forall_mem_cons.mpr ⟨k_84_108, List.forall_mem_cons.mpr ⟨k_84_109, List.forall_mem_cons.mpr ⟨k_84_112, fun _ h => absurd h List.not_mem_nil⟩⟩⟩
def P84 : List (Nat × List (Nat × aO)) := [(15, B84_0), (53, B84_1), (65, B84_2), (79, B84_3), (93, B84_4), (107, B84_5), (112, B84_6)]
theorem P84_ok : ∀ b ∈ P84, ∀ q ∈ b.2, Ok M84 q.1 q.2 := List.forall_mem_cons.mpr ⟨B84_0_ok, List.forall_mem_cons.mpr ⟨B84_1_ok, List.forall_mem_cons.mpr ⟨B84_2_ok, List.forall_mem_cons.mpr ⟨B84_3_ok, List.forall_mem_cons.mpr ⟨B84_4_ok, List.forall_mem_cons.mpr ⟨B84_5_ok, List.forall_mem_cons.mpr ⟨B84_6_ok, fun _ h => absurd h List.not_mem_nil⟩⟩⟩⟩⟩⟩⟩
theorem k_85_0 : Ok M85 0 (oLA 0 1) := r_aload_n (j := 0) (by decide +kernel) rfl
theorem k_85_1 : Ok M85 1 (oGe 4 3 4) := r_get (idx := 29) (by decide +kernel) cd_4 3 (by decide) w_281 rfl
theorem k_85_4 : Ok M85 4 (oGe 2 2 7) := r_get (idx := 191) (by decide +kernel) cd_2 2 (by decide) w_222 rfl
theorem k_85_7 : Ok M85 7 (oB1 b_if_ne q_ne 15 10) := r_if_ne (off := 8) (by decide +kernel) (by decide +kernel)
theorem k_85_10 : Ok M85 10 (oLA 0 11) := r_aload_n (j := 0) (by decide +kernel) rfl
theorem k_85_11 : Ok M85 11 (oCV 4 92 0) := r_callV (idx := 135) (by decide +kernel) w_475 cv_92
theorem k_85_14 : Ok M85 14 (oRI) := r_ireturn rfl (by decide +kernel)
theorem k_85_15 : Ok M85 15 (oLA 0 16) := r_aload_n (j := 0) (by decide +kernel) rfl
theorem k_85_16 : Ok M85 16 (oGe 4 3 19) := r_get (idx := 29) (by decide +kernel) cd_4 3 (by decide) w_281 rfl
theorem k_85_19 : Ok M85 19 (oLA 0 20) := r_aload_n (j := 0) (by decide +kernel) rfl
theorem k_85_20 : Ok M85 20 (oGe 4 1 23) := r_get (idx := 19) (by decide +kernel) cd_4 1 (by decide) w_279 rfl
theorem k_85_23 : Ok M85 23 (oCV 2 46 1) := r_callV (idx := 194) (by decide +kernel) w_644 cv_46
theorem k_85_26 : Ok M85 26 (oLA 0 27) := r_aload_n (j := 0) (by decide +kernel) rfl
theorem k_85_27 : Ok M85 27 (oGe 4 3 30) := r_get (idx := 29) (by decide +kernel) cd_4 3 (by decide) w_281 rfl
theorem k_85_30 : Ok M85 30 (oGe 2 2 33) := r_get (idx := 191) (by decide +kernel) cd_2 2 (by decide) w_222 rfl
theorem k_85_33 : Ok M85 33 (oRI) := r_ireturn rfl (by decide +kernel)
def B85_0 : List (Nat × aO) := [(0, oLA 0 1), (1, oGe 4 3 4), (4, oGe 2 2 7), (7, oB1 b_if_ne q_ne 15 10), (10, oLA 0 11), (11, oCV 4 92 0), (14, oRI), (15, oLA 0 16)]
theorem B85_0_ok : ∀ q ∈ B85_0, Ok M85 q.1 q.2 := List.forall_mem_cons.mpr ⟨k_85_0, List.forall_mem_cons.mpr ⟨k_85_1, List.forall_mem_cons.mpr ⟨k_85_4, List.forall_mem_cons.mpr ⟨k_85_7, List.forall_mem_cons.mpr ⟨k_85_10, List.forall_mem_cons.mpr ⟨k_85_11, List.forall_mem_cons.mpr ⟨k_85_14, List.forall_mem_cons.mpr ⟨k_85_15, fun _ h => absurd h List.not_mem_nil⟩⟩⟩⟩⟩⟩⟩⟩
def B85_1 : List (Nat × aO) := [(16, oGe 4 3 19), (19, oLA 0 20), (20, oGe 4 1 23), (23, oCV 2 46 1), (26, oLA 0 27), (27, oGe 4 3 30), (30, oGe 2 2 33), (33, oRI)]
theorem B85_1_ok : ∀ q ∈ B85_1, Ok M85 q.1 q.2 := List.forall_mem_cons.mpr ⟨k_85_16, List.forall_mem_cons.mpr ⟨k_85_19, List.forall_mem_cons.mpr ⟨k_85_20, List.forall_mem_cons.mpr ⟨k_85_23, List.forall_mem_cons.mpr ⟨k_85_26, List.forall_mem_cons.mpr ⟨k_85_27, List.forall_mem_cons.mpr ⟨k_85_30, List.forall_mem_cons.mpr ⟨k_85_33, fun _ h => absurd h List.not_mem_nil⟩⟩⟩⟩⟩⟩⟩⟩
def P85 : List (Nat × List (Nat × aO)) := [(15, B85_0), (33, B85_1)]
theorem P85_ok : ∀ b ∈ P85, ∀ q ∈ b.2, Ok M85 q.1 q.2 := List.forall_mem_cons.mpr ⟨B85_0_ok, List.forall_mem_cons.mpr ⟨B85_1_ok, fun _ h => absurd h List.not_mem_nil⟩⟩
theorem k_86_0 : Ok M86 0 (oLI 1 1) := r_iload_n (j := 1) (by decide +kernel) rfl
theorem k_86_1 : Ok M86 1 (oB1 b_if_lt q_lt 10 4) := r_if_lt (off := 9) (by decide +kernel) (by decide +kernel)
theorem k_86_4 : Ok M86 4 (oLI 1 5) := r_iload_n (j := 1) (by decide +kernel) rfl
theorem k_86_5 : Ok M86 5 (oS (gKo (.int 10)) 7) := r_bipush (n := 10) (by decide +kernel) (by decide +kernel)
theorem k_86_7 : Ok M86 7 (oB2 b_icmp_lt q_lt 15 10) := r_icmp_lt (off := 8) (by decide +kernel) (by decide +kernel)
theorem k_86_10 : Ok M86 10 (oLA 0 11) := r_aload_n (j := 0) (by decide +kernel) rfl
theorem k_86_11 : Ok M86 11 (oCV 4 91 0) := r_callV (idx := 47) (by decide +kernel) w_310 cv_91
theorem k_86_14 : Ok M86 14 (oRI) := r_ireturn rfl (by decide +kernel)
theorem k_86_15 : Ok M86 15 (oLI 1 16) := r_iload_n (j := 1) (by decide +kernel) rfl
theorem k_86_16 : Ok M86 16 (oTb [68, 73, 78, 83, 91, 99, 107, 115, 123] 134) := r_table (dflt := 118) (hi := 8) (offs := #[52, 57, 62, 67, 75, 83, 91, 99, 107]) (len := 52) (by decide +kernel) (by decide +kernel) (by decide +kernel) (by decide +kernel)
theorem k_86_68 : Ok M86 68 (oLA 0 69) := r_aload_n (j := 0) (by decide +kernel) rfl
theorem k_86_69 : Ok M86 69 (oGe 4 6 72) := r_get (idx := 197) (by decide +kernel) cd_4 6 (by decide) w_284 rfl
theorem k_86_72 : Ok M86 72 (oRI) := r_ireturn rfl (by decide +kernel)
theorem k_86_73 : Ok M86 73 (oLA 0 74) := r_aload_n (j := 0) (by decide +kernel) rfl
theorem k_86_74 : Ok M86 74 (oGe 4 7 77) := r_get (idx := 200) (by decide +kernel) cd_4 7 (by decide) w_285 rfl
theorem k_86_77 : Ok M86 77 (oRI) := r_ireturn rfl (by decide +kernel)
theorem k_86_78 : Ok M86 78 (oLA 0 79) := r_aload_n (j := 0) (by decide +kernel) rfl
theorem k_86_79 : Ok M86 79 (oGe 4 8 82) := r_get (idx := 203) (by decide +kernel) cd_4 8 (by decide) w_286 rfl
theorem k_86_82 : Ok M86 82 (oRI) := r_ireturn rfl (by decide +kernel)
theorem k_86_83 : Ok M86 83 (oLA 0 84) := r_aload_n (j := 0) (by decide +kernel) rfl
theorem k_86_84 : Ok M86 84 (oGe 4 0 87) := r_get (idx := 10) (by decide +kernel) cd_4 0 (by decide) w_278 rfl
theorem k_86_87 : Ok M86 87 (oGe 3 1 90) := r_get (idx := 51) (by decide +kernel) cd_3 1 (by decide) w_99 rfl
theorem k_86_90 : Ok M86 90 (oRI) := r_ireturn rfl (by decide +kernel)
theorem k_86_91 : Ok M86 91 (oLA 0 92) := r_aload_n (j := 0) (by decide +kernel) rfl
theorem k_86_92 : Ok M86 92 (oGe 4 1 95) := r_get (idx := 19) (by decide +kernel) cd_4 1 (by decide) w_279 rfl
theorem k_86_95 : Ok M86 95 (oGe 0 0 98) := r_get (idx := 149) (by decide +kernel) cd_0 0 (by decide) w_133 rfl
theorem k_86_98 : Ok M86 98 (oRI) := r_ireturn rfl (by decide +kernel)
theorem k_86_99 : Ok M86 99 (oLA 0 100) := r_aload_n (j := 0) (by decide +kernel) rfl
theorem k_86_100 : Ok M86 100 (oGe 4 1 103) := r_get (idx := 19) (by decide +kernel) cd_4 1 (by decide) w_279 rfl
theorem k_86_103 : Ok M86 103 (oGe 0 2 106) := r_get (idx := 155) (by decide +kernel) cd_0 2 (by decide) w_139 rfl
theorem k_86_106 : Ok M86 106 (oRI) := r_ireturn rfl (by decide +kernel)
theorem k_86_107 : Ok M86 107 (oLA 0 108) := r_aload_n (j := 0) (by decide +kernel) rfl
theorem k_86_108 : Ok M86 108 (oGe 4 1 111) := r_get (idx := 19) (by decide +kernel) cd_4 1 (by decide) w_279 rfl
theorem k_86_111 : Ok M86 111 (oGe 0 6 114) := r_get (idx := 142) (by decide +kernel) cd_0 6 (by decide) w_146 rfl
theorem k_86_114 : Ok M86 114 (oRI) := r_ireturn rfl (by decide +kernel)
theorem k_86_115 : Ok M86 115 (oLA 0 116) := r_aload_n (j := 0) (by decide +kernel) rfl
theorem k_86_116 : Ok M86 116 (oGe 4 1 119) := r_get (idx := 19) (by decide +kernel) cd_4 1 (by decide) w_279 rfl
theorem k_86_119 : Ok M86 119 (oGe 0 12 122) := r_get (idx := 206) (by decide +kernel) cd_0 12 (by decide) w_158 rfl
theorem k_86_122 : Ok M86 122 (oRI) := r_ireturn rfl (by decide +kernel)
theorem k_86_123 : Ok M86 123 (oLA 0 124) := r_aload_n (j := 0) (by decide +kernel) rfl
theorem k_86_124 : Ok M86 124 (oGe 4 1 127) := r_get (idx := 19) (by decide +kernel) cd_4 1 (by decide) w_279 rfl
theorem k_86_127 : Ok M86 127 (oGe 0 15 130) := r_get (idx := 114) (by decide +kernel) cd_0 15 (by decide) w_164 rfl
theorem k_86_130 : Ok M86 130 (oCS 168 1) := r_callS (idx := 209) (by decide +kernel) w_652 cs_168
theorem k_86_133 : Ok M86 133 (oRI) := r_ireturn rfl (by decide +kernel)
theorem k_86_134 : Ok M86 134 (oLA 0 135) := r_aload_n (j := 0) (by decide +kernel) rfl
theorem k_86_135 : Ok M86 135 (oGe 4 3 138) := r_get (idx := 29) (by decide +kernel) cd_4 3 (by decide) w_281 rfl
theorem k_86_138 : Ok M86 138 (oGe 2 2 141) := r_get (idx := 191) (by decide +kernel) cd_2 2 (by decide) w_222 rfl
theorem k_86_141 : Ok M86 141 (oRI) := r_ireturn rfl (by decide +kernel)
def B86_0 : List (Nat × aO) := [(0, oLI 1 1), (1, oB1 b_if_lt q_lt 10 4), (4, oLI 1 5), (5, oS (gKo (.int 10)) 7), (7, oB2 b_icmp_lt q_lt 15 10), (10, oLA 0 11), (11, oCV 4 91 0), (14, oRI)]
theorem B86_0_ok : ∀ q ∈ B86_0, Ok M86 q.1 q.2 := List.forall_mem_cons.mpr ⟨k_86_0, List.forall_mem_cons.mpr ⟨k_86_1, List.forall_mem_cons.mpr ⟨k_86_4, List.forall_mem_cons.mpr ⟨k_86_5, List.forall_mem_cons.mpr ⟨k_86_7, List.forall_mem_cons.mpr ⟨k_86_10, List.forall_mem_cons.mpr ⟨k_86_11, List.forall_mem_cons.mpr ⟨k_86_14, fun _ h => absurd h List.not_mem_nil⟩⟩⟩⟩⟩⟩⟩⟩
def B86_1 : List (Nat × aO) := [(15, oLI 1 16), (16, oTb [68, 73, 78, 83, 91, 99, 107, 115, 123] 134), (68, oLA 0 69), (69, oGe 4 6 72), (72, oRI), (73, oLA 0 74), (74, oGe 4 7 77), (77, oRI)]
theorem B86_1_ok : ∀ q ∈ B86_1, Ok M86 q.1 q.2 := List.forall_mem_cons.mpr ⟨k_86_15, List.forall_mem_cons.mpr ⟨k_86_16, List.forall_mem_cons.mpr ⟨k_86_68, List.forall_mem_cons.mpr ⟨k_86_69, List.forall_mem_cons.mpr ⟨k_86_72, List.forall_mem_cons.mpr ⟨k_86_73, List.forall_mem_cons.mpr ⟨k_86_74, List.forall_mem_cons.mpr ⟨k_86_77, fun _ h => absurd h List.not_mem_nil⟩⟩⟩⟩⟩⟩⟩⟩
def B86_2 : List (Nat × aO) := [(78, oLA 0 79), (79, oGe 4 8 82), (82, oRI), (83, oLA 0 84), (84, oGe 4 0 87), (87, oGe 3 1 90), (90, oRI), (91, oLA 0 92)]
theorem B86_2_ok : ∀ q ∈ B86_2, Ok M86 q.1 q.2 := List.forall_mem_cons.mpr ⟨k_86_78, List.forall_mem_cons.mpr ⟨k_86_79, List.forall_mem_cons.mpr ⟨k_86_82, List.forall_mem_cons.mpr ⟨k_86_83, List.forall_mem_cons.mpr ⟨k_86_84, List.forall_mem_cons.mpr ⟨k_86_87, List.forall_mem_cons.mpr ⟨k_86_90, List.forall_mem_cons.mpr ⟨k_86_91, fun _ h => absurd h List.not_mem_nil⟩⟩⟩⟩⟩⟩⟩⟩
def B86_3 : List (Nat × aO) := [(92, oGe 4 1 95), (95, oGe 0 0 98), (98, oRI), (99, oLA 0 100), (100, oGe 4 1 103), (103, oGe 0 2 106), (106, oRI), (107, oLA 0 108)]
theorem B86_3_ok : ∀ q ∈ B86_3, Ok M86 q.1 q.2 := List.forall_mem_cons.mpr ⟨k_86_92, List.forall_mem_cons.mpr ⟨k_86_95, List.forall_mem_cons.mpr ⟨k_86_98, List.forall_mem_cons.mpr ⟨k_86_99, List.forall_mem_cons.mpr ⟨k_86_100, List.forall_mem_cons.mpr ⟨k_86_103, List.forall_mem_cons.mpr ⟨k_86_106, List.forall_mem_cons.mpr ⟨k_86_107, fun _ h => absurd h List.not_mem_nil⟩⟩⟩⟩⟩⟩⟩⟩
def B86_4 : List (Nat × aO) := [(108, oGe 4 1 111), (111, oGe 0 6 114), (114, oRI), (115, oLA 0 116), (116, oGe 4 1 119), (119, oGe 0 12 122), (122, oRI), (123, oLA 0 124)]
theorem B86_4_ok : ∀ q ∈ B86_4, Ok M86 q.1 q.2 := List.forall_mem_cons.mpr ⟨k_86_108, List.forall_mem_cons.mpr ⟨k_86_111, List.forall_mem_cons.mpr ⟨k_86_114, List.forall_mem_cons.mpr ⟨k_86_115, List.forall_mem_cons.mpr ⟨k_86_116, List.forall_mem_cons.mpr ⟨k_86_119, List.forall_mem_cons.mpr ⟨k_86_122, List.forall_mem_cons.mpr ⟨k_86_123, fun _ h => absurd h List.not_mem_nil⟩⟩⟩⟩⟩⟩⟩⟩
def B86_5 : List (Nat × aO) := [(124, oGe 4 1 127), (127, oGe 0 15 130), (130, oCS 168 1), (133, oRI), (134, oLA 0 135), (135, oGe 4 3 138), (138, oGe 2 2 141), (141, oRI)]
theorem B86_5_ok : ∀ q ∈ B86_5, Ok M86 q.1 q.2 := List.forall_mem_cons.mpr ⟨k_86_124, List.forall_mem_cons.mpr ⟨k_86_127, List.forall_mem_cons.mpr ⟨k_86_130, List.forall_mem_cons.mpr ⟨k_86_133, List.forall_mem_cons.mpr ⟨k_86_134, List.forall_mem_cons.mpr ⟨k_86_135, List.forall_mem_cons.mpr ⟨k_86_138, List.forall_mem_cons.mpr ⟨k_86_141, fun _ h => absurd h List.not_mem_nil⟩⟩⟩⟩⟩⟩⟩⟩
def P86 : List (Nat × List (Nat × aO)) := [(14, B86_0), (77, B86_1), (91, B86_2), (107, B86_3), (123, B86_4), (141, B86_5)]
theorem P86_ok : ∀ b ∈ P86, ∀ q ∈ b.2, Ok M86 q.1 q.2 := List.forall_mem_cons.mpr ⟨B86_0_ok, List.forall_mem_cons.mpr ⟨B86_1_ok, List.forall_mem_cons.mpr ⟨B86_2_ok, List.forall_mem_cons.mpr ⟨B86_3_ok, List.forall_mem_cons.mpr ⟨B86_4_ok, List.forall_mem_cons.mpr ⟨B86_5_ok, fun _ h => absurd h List.not_mem_nil⟩⟩⟩⟩⟩⟩
theorem k_87_0 : Ok M87 0 (oK (.long 2269) 3) := r_ldc2 (i := 214) (by decide +kernel) w_657
theorem k_87_3 : Ok M87 3 (oSL 1 5 4) := r_lstore_n (j := 1) (by decide +kernel) rfl
theorem k_87_4 : Ok M87 4 (oS (gKo (.int 0)) 5) := r_iconst (n := 0) (by decide +kernel) (by decide +kernel)
theorem k_87_5 : Ok M87 5 (oSI 3 5 6) := r_istore_n (j := 3) (by decide +kernel) rfl
theorem k_87_6 : Ok M87 6 (oLI 3 7) := r_iload_n (j := 3) (by decide +kernel) rfl
theorem k_87_7 : Ok M87 7 (oS (gKo (.int 10)) 9) := r_bipush (n := 10) (by decide +kernel) (by decide +kernel)
theorem k_87_9 : Ok M87 9 (oB2 b_icmp_ge q_ge 28 12) := r_icmp_ge (off := 19) (by decide +kernel) (by decide +kernel)
theorem k_87_12 : Ok M87 12 (oLL 1 13) := r_lload_n (j := 1) (by decide +kernel) rfl
theorem k_87_13 : Ok M87 13 (oLA 0 14) := r_aload_n (j := 0) (by decide +kernel) rfl
theorem k_87_14 : Ok M87 14 (oLI 3 15) := r_iload_n (j := 3) (by decide +kernel) rfl
theorem k_87_15 : Ok M87 15 (oCV 4 86 1) := r_callV (idx := 216) (by decide +kernel) w_658 cv_86
theorem k_87_18 : Ok M87 18 (oCS 89 2) := r_callS (idx := 219) (by decide +kernel) w_659 cs_89
theorem k_87_21 : Ok M87 21 (oSL 1 5 22) := r_lstore_n (j := 1) (by decide +kernel) rfl
theorem k_87_22 : Ok M87 22 (oInc 3 1 5 25) := r_iinc (n := 1) (by decide +kernel) (by decide +kernel)
theorem k_87_25 : Ok M87 25 (oGo 6) := r_goto (off := (-19)) (by decide +kernel) (by decide +kernel)
theorem k_87_28 : Ok M87 28 (oS (gKo (.int 0)) 29) := r_iconst (n := 0) (by decide +kernel) (by decide +kernel)
theorem k_87_29 : Ok M87 29 (oSI 3 5 30) := r_istore_n (j := 3) (by decide +kernel) rfl
theorem k_87_30 : Ok M87 30 (oLI 3 31) := r_iload_n (j := 3) (by decide +kernel) rfl
theorem k_87_31 : Ok M87 31 (oLA 0 32) := r_aload_n (j := 0) (by decide +kernel) rfl
theorem k_87_32 : Ok M87 32 (oGe 4 1 35) := r_get (idx := 19) (by decide +kernel) cd_4 1 (by decide) w_279 rfl
theorem k_87_35 : Ok M87 35 (oGe 0 0 38) := r_get (idx := 149) (by decide +kernel) cd_0 0 (by decide) w_133 rfl
theorem k_87_38 : Ok M87 38 (oB2 b_icmp_ge q_ge 74 41) := r_icmp_ge (off := 36) (by decide +kernel) (by decide +kernel)
theorem k_87_41 : Ok M87 41 (oS (gKo (.int 0)) 42) := r_iconst (n := 0) (by decide +kernel) (by decide +kernel)
theorem k_87_42 : Ok M87 42 (oSI 4 5 44) := r_istore (by decide +kernel)
theorem k_87_44 : Ok M87 44 (oLI 4 46) := r_iload (by decide +kernel)
theorem k_87_46 : Ok M87 46 (oS (gKo (.int 4)) 47) := r_iconst (n := 4) (by decide +kernel) (by decide +kernel)
theorem k_87_47 : Ok M87 47 (oB2 b_icmp_ge q_ge 68 50) := r_icmp_ge (off := 21) (by decide +kernel) (by decide +kernel)
theorem k_87_50 : Ok M87 50 (oLL 1 51) := r_lload_n (j := 1) (by decide +kernel) rfl
theorem k_87_51 : Ok M87 51 (oLA 0 52) := r_aload_n (j := 0) (by decide +kernel) rfl
theorem k_87_52 : Ok M87 52 (oLI 3 53) := r_iload_n (j := 3) (by decide +kernel) rfl
theorem k_87_53 : Ok M87 53 (oLI 4 55) := r_iload (by decide +kernel)
theorem k_87_55 : Ok M87 55 (oCV 4 67 2) := r_callV (idx := 223) (by decide +kernel) w_663 cv_67
theorem k_87_58 : Ok M87 58 (oCS 89 2) := r_callS (idx := 219) (by decide +kernel) w_659 cs_89
theorem k_87_61 : Ok M87 61 (oSL 1 5 62) := r_lstore_n (j := 1) (by decide +kernel) rfl
theorem k_87_62 : Ok M87 62 (oInc 4 1 5 65) := r_iinc (n := 1) (by decide +kernel) (by decide +kernel)
theorem k_87_65 : Ok M87 65 (oGo 44) := r_goto (off := (-21)) (by decide +kernel) (by decide +kernel)
theorem k_87_68 : Ok M87 68 (oInc 3 1 5 71) := r_iinc (n := 1) (by decide +kernel) (by decide +kernel)
theorem k_87_71 : Ok M87 71 (oGo 30) := r_goto (off := (-41)) (by decide +kernel) (by decide +kernel)
theorem k_87_74 : Ok M87 74 (oS (gKo (.int 0)) 75) := r_iconst (n := 0) (by decide +kernel) (by decide +kernel)
theorem k_87_75 : Ok M87 75 (oSI 3 5 76) := r_istore_n (j := 3) (by decide +kernel) rfl
theorem k_87_76 : Ok M87 76 (oLI 3 77) := r_iload_n (j := 3) (by decide +kernel) rfl
theorem k_87_77 : Ok M87 77 (oLA 0 78) := r_aload_n (j := 0) (by decide +kernel) rfl
theorem k_87_78 : Ok M87 78 (oGe 4 1 81) := r_get (idx := 19) (by decide +kernel) cd_4 1 (by decide) w_279 rfl
theorem k_87_81 : Ok M87 81 (oGe 0 2 84) := r_get (idx := 155) (by decide +kernel) cd_0 2 (by decide) w_139 rfl
theorem k_87_84 : Ok M87 84 (oB2 b_icmp_ge q_ge 100 87) := r_icmp_ge (off := 16) (by decide +kernel) (by decide +kernel)
theorem k_87_87 : Ok M87 87 (oLA 0 88) := r_aload_n (j := 0) (by decide +kernel) rfl
theorem k_87_88 : Ok M87 88 (oLL 1 89) := r_lload_n (j := 1) (by decide +kernel) rfl
theorem k_87_89 : Ok M87 89 (oLI 3 90) := r_iload_n (j := 3) (by decide +kernel) rfl
theorem k_87_90 : Ok M87 90 (oCV 4 88 2) := r_callV (idx := 226) (by decide +kernel) w_664 cv_88
theorem k_87_93 : Ok M87 93 (oSL 1 5 94) := r_lstore_n (j := 1) (by decide +kernel) rfl
theorem k_87_94 : Ok M87 94 (oInc 3 1 5 97) := r_iinc (n := 1) (by decide +kernel) (by decide +kernel)
theorem k_87_97 : Ok M87 97 (oGo 76) := r_goto (off := (-21)) (by decide +kernel) (by decide +kernel)
theorem k_87_100 : Ok M87 100 (oLL 1 101) := r_lload_n (j := 1) (by decide +kernel) rfl
theorem k_87_101 : Ok M87 101 (oRL) := r_lreturn rfl (by decide +kernel)
def B87_0 : List (Nat × aO) := [(0, oK (.long 2269) 3), (3, oSL 1 5 4), (4, oS (gKo (.int 0)) 5), (5, oSI 3 5 6), (6, oLI 3 7), (7, oS (gKo (.int 10)) 9), (9, oB2 b_icmp_ge q_ge 28 12), (12, oLL 1 13)]
theorem B87_0_ok : ∀ q ∈ B87_0, Ok M87 q.1 q.2 := List.forall_mem_cons.mpr ⟨k_87_0, List.forall_mem_cons.mpr ⟨k_87_3, List.forall_mem_cons.mpr ⟨k_87_4, List.forall_mem_cons.mpr ⟨k_87_5, List.forall_mem_cons.mpr ⟨k_87_6, List.forall_mem_cons.mpr ⟨k_87_7, List.forall_mem_cons.mpr ⟨k_87_9, List.forall_mem_cons.mpr ⟨k_87_12, fun _ h => absurd h List.not_mem_nil⟩⟩⟩⟩⟩⟩⟩⟩
def B87_1 : List (Nat × aO) := [(13, oLA 0 14), (14, oLI 3 15), (15, oCV 4 86 1), (18, oCS 89 2), (21, oSL 1 5 22), (22, oInc 3 1 5 25), (25, oGo 6), (28, oS (gKo (.int 0)) 29)]
theorem B87_1_ok : ∀ q ∈ B87_1, Ok M87 q.1 q.2 := List.forall_mem_cons.mpr ⟨k_87_13, List.forall_mem_cons.mpr ⟨k_87_14, List.forall_mem_cons.mpr ⟨k_87_15, List.forall_mem_cons.mpr ⟨k_87_18, List.forall_mem_cons.mpr ⟨k_87_21, List.forall_mem_cons.mpr ⟨k_87_22, List.forall_mem_cons.mpr ⟨k_87_25, List.forall_mem_cons.mpr ⟨k_87_28, fun _ h => absurd h List.not_mem_nil⟩⟩⟩⟩⟩⟩⟩⟩
def B87_2 : List (Nat × aO) := [(29, oSI 3 5 30), (30, oLI 3 31), (31, oLA 0 32), (32, oGe 4 1 35), (35, oGe 0 0 38), (38, oB2 b_icmp_ge q_ge 74 41), (41, oS (gKo (.int 0)) 42), (42, oSI 4 5 44)]
theorem B87_2_ok : ∀ q ∈ B87_2, Ok M87 q.1 q.2 := List.forall_mem_cons.mpr ⟨k_87_29, List.forall_mem_cons.mpr ⟨k_87_30, List.forall_mem_cons.mpr ⟨k_87_31, List.forall_mem_cons.mpr ⟨k_87_32, List.forall_mem_cons.mpr ⟨k_87_35, List.forall_mem_cons.mpr ⟨k_87_38, List.forall_mem_cons.mpr ⟨k_87_41, List.forall_mem_cons.mpr ⟨k_87_42, fun _ h => absurd h List.not_mem_nil⟩⟩⟩⟩⟩⟩⟩⟩
def B87_3 : List (Nat × aO) := [(44, oLI 4 46), (46, oS (gKo (.int 4)) 47), (47, oB2 b_icmp_ge q_ge 68 50), (50, oLL 1 51), (51, oLA 0 52), (52, oLI 3 53), (53, oLI 4 55), (55, oCV 4 67 2)]
theorem B87_3_ok : ∀ q ∈ B87_3, Ok M87 q.1 q.2 := List.forall_mem_cons.mpr ⟨k_87_44, List.forall_mem_cons.mpr ⟨k_87_46, List.forall_mem_cons.mpr ⟨k_87_47, List.forall_mem_cons.mpr ⟨k_87_50, List.forall_mem_cons.mpr ⟨k_87_51, List.forall_mem_cons.mpr ⟨k_87_52, List.forall_mem_cons.mpr ⟨k_87_53, List.forall_mem_cons.mpr ⟨k_87_55, fun _ h => absurd h List.not_mem_nil⟩⟩⟩⟩⟩⟩⟩⟩
def B87_4 : List (Nat × aO) := [(58, oCS 89 2), (61, oSL 1 5 62), (62, oInc 4 1 5 65), (65, oGo 44), (68, oInc 3 1 5 71), (71, oGo 30), (74, oS (gKo (.int 0)) 75), (75, oSI 3 5 76)]
theorem B87_4_ok : ∀ q ∈ B87_4, Ok M87 q.1 q.2 := List.forall_mem_cons.mpr ⟨k_87_58, List.forall_mem_cons.mpr ⟨k_87_61, List.forall_mem_cons.mpr ⟨k_87_62, List.forall_mem_cons.mpr ⟨k_87_65, List.forall_mem_cons.mpr ⟨k_87_68, List.forall_mem_cons.mpr ⟨k_87_71, List.forall_mem_cons.mpr ⟨k_87_74, List.forall_mem_cons.mpr ⟨k_87_75, fun _ h => absurd h List.not_mem_nil⟩⟩⟩⟩⟩⟩⟩⟩
def B87_5 : List (Nat × aO) := [(76, oLI 3 77), (77, oLA 0 78), (78, oGe 4 1 81), (81, oGe 0 2 84), (84, oB2 b_icmp_ge q_ge 100 87), (87, oLA 0 88), (88, oLL 1 89), (89, oLI 3 90)]
theorem B87_5_ok : ∀ q ∈ B87_5, Ok M87 q.1 q.2 := List.forall_mem_cons.mpr ⟨k_87_76, List.forall_mem_cons.mpr ⟨k_87_77, List.forall_mem_cons.mpr ⟨k_87_78, List.forall_mem_cons.mpr ⟨k_87_81, List.forall_mem_cons.mpr ⟨k_87_84, List.forall_mem_cons.mpr ⟨k_87_87, List.forall_mem_cons.mpr ⟨k_87_88, List.forall_mem_cons.mpr ⟨k_87_89, fun _ h => absurd h List.not_mem_nil⟩⟩⟩⟩⟩⟩⟩⟩
def B87_6 : List (Nat × aO) := [(90, oCV 4 88 2), (93, oSL 1 5 94), (94, oInc 3 1 5 97), (97, oGo 76), (100, oLL 1 101), (101, oRL)]
theorem B87_6_ok : ∀ q ∈ B87_6, Ok M87 q.1 q.2 := List.forall_mem_cons.mpr ⟨k_87_90, List.forall_mem_cons.mpr ⟨k_87_93, List.forall_mem_cons.mpr ⟨k_87_94, List.forall_mem_cons.mpr ⟨k_87_97, List.forall_mem_cons.mpr ⟨k_87_100, List.forall_mem_cons.mpr ⟨k_87_101, fun _ h => absurd h List.not_mem_nil⟩⟩⟩⟩⟩⟩
def P87 : List (Nat × List (Nat × aO)) := [(12, B87_0), (28, B87_1), (42, B87_2), (55, B87_3), (75, B87_4), (89, B87_5), (101, B87_6)]
theorem P87_ok : ∀ b ∈ P87, ∀ q ∈ b.2, Ok M87 q.1 q.2 := List.forall_mem_cons.mpr ⟨B87_0_ok, List.forall_mem_cons.mpr ⟨B87_1_ok, List.forall_mem_cons.mpr ⟨B87_2_ok, List.forall_mem_cons.mpr ⟨B87_3_ok, List.forall_mem_cons.mpr ⟨B87_4_ok, List.forall_mem_cons.mpr ⟨B87_5_ok, List.forall_mem_cons.mpr ⟨B87_6_ok, fun _ h => absurd h List.not_mem_nil⟩⟩⟩⟩⟩⟩⟩
theorem k_88_0 : Ok M88 0 (oLL 1 1) := r_lload_n (j := 1) (by decide +kernel) rfl
theorem k_88_1 : Ok M88 1 (oSL 4 7 3) := r_lstore (by decide +kernel)
theorem k_88_3 : Ok M88 3 (oS (gKo (.int 0)) 4) := r_iconst (n := 0) (by decide +kernel) (by decide +kernel)
theorem k_88_4 : Ok M88 4 (oSI 6 7 6) := r_istore (by decide +kernel)
theorem k_88_6 : Ok M88 6 (oLI 6 8) := r_iload (by decide +kernel)
theorem k_88_8 : Ok M88 8 (oS (gKo (.int 6)) 10) := r_bipush (n := 6) (by decide +kernel) (by decide +kernel)
theorem k_88_10 : Ok M88 10 (oB2 b_icmp_ge q_ge 33 13) := r_icmp_ge (off := 23) (by decide +kernel) (by decide +kernel)
theorem k_88_13 : Ok M88 13 (oLL 4 15) := r_lload (by decide +kernel)
theorem k_88_15 : Ok M88 15 (oLA 0 16) := r_aload_n (j := 0) (by decide +kernel) rfl
theorem k_88_16 : Ok M88 16 (oLI 3 17) := r_iload_n (j := 3) (by decide +kernel) rfl
theorem k_88_17 : Ok M88 17 (oLI 6 19) := r_iload (by decide +kernel)
theorem k_88_19 : Ok M88 19 (oCV 4 68 2) := r_callV (idx := 229) (by decide +kernel) w_668 cv_68
theorem k_88_22 : Ok M88 22 (oCS 89 2) := r_callS (idx := 219) (by decide +kernel) w_659 cs_89
theorem k_88_25 : Ok M88 25 (oSL 4 7 27) := r_lstore (by decide +kernel)
theorem k_88_27 : Ok M88 27 (oInc 6 1 7 30) := r_iinc (n := 1) (by decide +kernel) (by decide +kernel)
theorem k_88_30 : Ok M88 30 (oGo 6) := r_goto (off := (-24)) (by decide +kernel) (by decide +kernel)
theorem k_88_33 : Ok M88 33 (oS (gKo (.int 0)) 34) := r_iconst (n := 0) (by decide +kernel) (by decide +kernel)
theorem k_88_34 : Ok M88 34 (oSI 6 7 36) := r_istore (by decide +kernel)
theorem k_88_36 : Ok M88 36 (oLI 6 38) := r_iload (by decide +kernel)
theorem k_88_38 : Ok M88 38 (oLA 0 39) := r_aload_n (j := 0) (by decide +kernel) rfl
theorem k_88_39 : Ok M88 39 (oGe 4 1 42) := r_get (idx := 19) (by decide +kernel) cd_4 1 (by decide) w_279 rfl
theorem k_88_42 : Ok M88 42 (oGe 0 0 45) := r_get (idx := 149) (by decide +kernel) cd_0 0 (by decide) w_133 rfl
theorem k_88_45 : Ok M88 45 (oB2 b_icmp_ge q_ge 68 48) := r_icmp_ge (off := 23) (by decide +kernel) (by decide +kernel)
theorem k_88_48 : Ok M88 48 (oLL 4 50) := r_lload (by decide +kernel)
theorem k_88_50 : Ok M88 50 (oLA 0 51) := r_aload_n (j := 0) (by decide +kernel) rfl
theorem k_88_51 : Ok M88 51 (oLI 3 52) := r_iload_n (j := 3) (by decide +kernel) rfl
theorem k_88_52 : Ok M88 52 (oLI 6 54) := r_iload (by decide +kernel)
theorem k_88_54 : Ok M88 54 (oCV 4 69 2) := r_callV (idx := 232) (by decide +kernel) w_669 cv_69
theorem k_88_57 : Ok M88 57 (oCS 89 2) := r_callS (idx := 219) (by decide +kernel) w_659 cs_89
theorem k_88_60 : Ok M88 60 (oSL 4 7 62) := r_lstore (by decide +kernel)
theorem k_88_62 : Ok M88 62 (oInc 6 1 7 65) := r_iinc (n := 1) (by decide +kernel) (by decide +kernel)
theorem k_88_65 : Ok M88 65 (oGo 36) := r_goto (off := (-29)) (by decide +kernel) (by decide +kernel)
theorem k_88_68 : Ok M88 68 (oLL 4 70) := r_lload (by decide +kernel)
theorem k_88_70 : Ok M88 70 (oLA 0 71) := r_aload_n (j := 0) (by decide +kernel) rfl
theorem k_88_71 : Ok M88 71 (oLI 3 72) := r_iload_n (j := 3) (by decide +kernel) rfl
theorem k_88_72 : Ok M88 72 (oCV 4 78 1) := r_callV (idx := 235) (by decide +kernel) w_670 cv_78
theorem k_88_75 : Ok M88 75 (oCS 89 2) := r_callS (idx := 219) (by decide +kernel) w_659 cs_89
theorem k_88_78 : Ok M88 78 (oSL 4 7 80) := r_lstore (by decide +kernel)
theorem k_88_80 : Ok M88 80 (oLL 4 82) := r_lload (by decide +kernel)
theorem k_88_82 : Ok M88 82 (oLA 0 83) := r_aload_n (j := 0) (by decide +kernel) rfl
theorem k_88_83 : Ok M88 83 (oLI 3 84) := r_iload_n (j := 3) (by decide +kernel) rfl
theorem k_88_84 : Ok M88 84 (oCV 4 83 1) := r_callV (idx := 238) (by decide +kernel) w_671 cv_83
theorem k_88_87 : Ok M88 87 (oCS 89 2) := r_callS (idx := 219) (by decide +kernel) w_659 cs_89
theorem k_88_90 : Ok M88 90 (oRL) := r_lreturn rfl (by decide +kernel)
def B88_0 : List (Nat × aO) := [(0, oLL 1 1), (1, oSL 4 7 3), (3, oS (gKo (.int 0)) 4), (4, oSI 6 7 6), (6, oLI 6 8), (8, oS (gKo (.int 6)) 10), (10, oB2 b_icmp_ge q_ge 33 13), (13, oLL 4 15)]
theorem B88_0_ok : ∀ q ∈ B88_0, Ok M88 q.1 q.2 := List.forall_mem_cons.mpr ⟨k_88_0, List.forall_mem_cons.mpr ⟨k_88_1, List.forall_mem_cons.mpr ⟨k_88_3, List.forall_mem_cons.mpr ⟨k_88_4, List.forall_mem_cons.mpr ⟨k_88_6, List.forall_mem_cons.mpr ⟨k_88_8, List.forall_mem_cons.mpr ⟨k_88_10, List.forall_mem_cons.mpr ⟨k_88_13, fun _ h => absurd h List.not_mem_nil⟩⟩⟩⟩⟩⟩⟩⟩
def B88_1 : List (Nat × aO) := [(15, oLA 0 16), (16, oLI 3 17), (17, oLI 6 19), (19, oCV 4 68 2), (22, oCS 89 2), (25, oSL 4 7 27), (27, oInc 6 1 7 30), (30, oGo 6)]
theorem B88_1_ok : ∀ q ∈ B88_1, Ok M88 q.1 q.2 := List.forall_mem_cons.mpr ⟨k_88_15, List.forall_mem_cons.mpr ⟨k_88_16, List.forall_mem_cons.mpr ⟨k_88_17, List.forall_mem_cons.mpr ⟨k_88_19, List.forall_mem_cons.mpr ⟨k_88_22, List.forall_mem_cons.mpr ⟨k_88_25, List.forall_mem_cons.mpr ⟨k_88_27, List.forall_mem_cons.mpr ⟨k_88_30, fun _ h => absurd h List.not_mem_nil⟩⟩⟩⟩⟩⟩⟩⟩
def B88_2 : List (Nat × aO) := [(33, oS (gKo (.int 0)) 34), (34, oSI 6 7 36), (36, oLI 6 38), (38, oLA 0 39), (39, oGe 4 1 42), (42, oGe 0 0 45), (45, oB2 b_icmp_ge q_ge 68 48), (48, oLL 4 50)]
theorem B88_2_ok : ∀ q ∈ B88_2, Ok M88 q.1 q.2 := List.forall_mem_cons.mpr ⟨k_88_33, List.forall_mem_cons.mpr ⟨k_88_34, List.forall_mem_cons.mpr ⟨k_88_36, List.forall_mem_cons.mpr ⟨k_88_38, List.forall_mem_cons.mpr ⟨k_88_39, List.forall_mem_cons.mpr ⟨k_88_42, List.forall_mem_cons.mpr ⟨k_88_45, List.forall_mem_cons.mpr ⟨k_88_48, fun _ h => absurd h List.not_mem_nil⟩⟩⟩⟩⟩⟩⟩⟩
def B88_3 : List (Nat × aO) := [(50, oLA 0 51), (51, oLI 3 52), (52, oLI 6 54), (54, oCV 4 69 2), (57, oCS 89 2), (60, oSL 4 7 62), (62, oInc 6 1 7 65), (65, oGo 36)]
theorem B88_3_ok : ∀ q ∈ B88_3, Ok M88 q.1 q.2 := List.forall_mem_cons.mpr ⟨k_88_50, List.forall_mem_cons.mpr ⟨k_88_51, List.forall_mem_cons.mpr ⟨k_88_52, List.forall_mem_cons.mpr ⟨k_88_54, List.forall_mem_cons.mpr ⟨k_88_57, List.forall_mem_cons.mpr ⟨k_88_60, List.forall_mem_cons.mpr ⟨k_88_62, List.forall_mem_cons.mpr ⟨k_88_65, fun _ h => absurd h List.not_mem_nil⟩⟩⟩⟩⟩⟩⟩⟩
def B88_4 : List (Nat × aO) := [(68, oLL 4 70), (70, oLA 0 71), (71, oLI 3 72), (72, oCV 4 78 1), (75, oCS 89 2), (78, oSL 4 7 80), (80, oLL 4 82), (82, oLA 0 83)]
theorem B88_4_ok : ∀ q ∈ B88_4, Ok M88 q.1 q.2 := List.forall_mem_cons.mpr ⟨k_88_68, List.forall_mem_cons.mpr ⟨k_88_70, List.forall_mem_cons.mpr ⟨k_88_71, List.forall_mem_cons.mpr ⟨k_88_72, List.forall_mem_cons.mpr ⟨k_88_75, List.forall_mem_cons.mpr ⟨k_88_78, List.forall_mem_cons.mpr ⟨k_88_80, List.forall_mem_cons.mpr ⟨k_88_82, fun _ h => absurd h List.not_mem_nil⟩⟩⟩⟩⟩⟩⟩⟩
def B88_5 : List (Nat × aO) := [(83, oLI 3 84), (84, oCV 4 83 1), (87, oCS 89 2), (90, oRL)]
theorem B88_5_ok : ∀ q ∈ B88_5, Ok M88 q.1 q.2 := List.forall_mem_cons.mpr ⟨k_88_83, List.forall_mem_cons.mpr ⟨k_88_84, List.forall_mem_cons.mpr ⟨k_88_87, List.forall_mem_cons.mpr ⟨k_88_90, fun _ h => absurd h List.not_mem_nil⟩⟩⟩⟩
def P88 : List (Nat × List (Nat × aO)) := [(13, B88_0), (30, B88_1), (48, B88_2), (65, B88_3), (82, B88_4), (90, B88_5)]
theorem P88_ok : ∀ b ∈ P88, ∀ q ∈ b.2, Ok M88 q.1 q.2 := List.forall_mem_cons.mpr ⟨B88_0_ok, List.forall_mem_cons.mpr ⟨B88_1_ok, List.forall_mem_cons.mpr ⟨B88_2_ok, List.forall_mem_cons.mpr ⟨B88_3_ok, List.forall_mem_cons.mpr ⟨B88_4_ok, List.forall_mem_cons.mpr ⟨B88_5_ok, fun _ h => absurd h List.not_mem_nil⟩⟩⟩⟩⟩⟩
