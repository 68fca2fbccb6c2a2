theorem k_21_0 : Ok M21 0 (oS (gKo (.int 0)) 1) := r_iconst (n := 0) (by decide +kernel) (by decide +kernel)
theorem k_21_1 : Ok M21 1 (oSI 1 3 2) := r_istore_n (j := 1) (by decide +kernel) rfl
theorem k_21_2 : Ok M21 2 (oLA 0 3) := r_aload_n (j := 0) (by decide +kernel) rfl
theorem k_21_3 : Ok M21 3 (oCV 0 5 0) := r_callV (idx := 115) (by decide +kernel) w_258 cv_5
theorem k_21_6 : Ok M21 6 (oS (gKo (.int 1)) 7) := r_iconst (n := 1) (by decide +kernel) (by decide +kernel)
theorem k_21_7 : Ok M21 7 (oS (gI2 f_isub) 8) := r_isub (by decide +kernel)
theorem k_21_8 : Ok M21 8 (oSI 2 3 9) := r_istore_n (j := 2) (by decide +kernel) rfl
theorem k_21_9 : Ok M21 9 (oLI 2 10) := r_iload_n (j := 2) (by decide +kernel) rfl
theorem k_21_10 : Ok M21 10 (oB1 b_if_lt q_lt 37 13) := r_if_lt (off := 27) (by decide +kernel) (by decide +kernel)
theorem k_21_13 : Ok M21 13 (oLA 0 14) := r_aload_n (j := 0) (by decide +kernel) rfl
theorem k_21_14 : Ok M21 14 (oGe 0 9 17) := r_get (idx := 24) (by decide +kernel) cd_0 9 (by decide) w_151 rfl
theorem k_21_17 : Ok M21 17 (oLI 2 18) := r_iload_n (j := 2) (by decide +kernel) rfl
theorem k_21_18 : Ok M21 18 (oLI 1 19) := r_iload_n (j := 1) (by decide +kernel) rfl
theorem k_21_19 : Ok M21 19 (oAT 20) := r_iastore (by decide +kernel)
theorem k_21_20 : Ok M21 20 (oLI 1 21) := r_iload_n (j := 1) (by decide +kernel) rfl
theorem k_21_21 : Ok M21 21 (oS (gKo (.int 1)) 22) := r_iconst (n := 1) (by decide +kernel) (by decide +kernel)
theorem k_21_22 : Ok M21 22 (oLA 0 23) := r_aload_n (j := 0) (by decide +kernel) rfl
theorem k_21_23 : Ok M21 23 (oGe 0 8 26) := r_get (idx := 21) (by decide +kernel) cd_0 8 (by decide) w_150 rfl
theorem k_21_26 : Ok M21 26 (oLI 2 27) := r_iload_n (j := 2) (by decide +kernel) rfl
theorem k_21_27 : Ok M21 27 (oAI 28) := r_iaload (by decide +kernel)
theorem k_21_28 : Ok M21 28 (oS (gI2 f_ishl) 29) := r_ishl (by decide +kernel)
theorem k_21_29 : Ok M21 29 (oS (gI2 f_ior) 30) := r_ior (by decide +kernel)
theorem k_21_30 : Ok M21 30 (oSI 1 3 31) := r_istore_n (j := 1) (by decide +kernel) rfl
theorem k_21_31 : Ok M21 31 (oInc 2 (-1) 3 34) := r_iinc (n := (-1)) (by decide +kernel) (by decide +kernel)
theorem k_21_34 : Ok M21 34 (oGo 9) := r_goto (off := (-25)) (by decide +kernel) (by decide +kernel)
theorem k_21_37 : Ok M21 37 (oRV) := r_return rfl (by decide +kernel)
def B21_0 : List (Nat × aO) := [(0, oS (gKo (.int 0)) 1), (1, oSI 1 3 2), (2, oLA 0 3), (3, oCV 0 5 0), (6, oS (gKo (.int 1)) 7), (7, oS (gI2 f_isub) 8), (8, oSI 2 3 9), (9, oLI 2 10)]
theorem B21_0_ok : ∀ q ∈ B21_0, Ok M21 q.1 q.2 := List.forall_mem_cons.mpr ⟨k_21_0, List.forall_mem_cons.mpr ⟨k_21_1, List.forall_mem_cons.mpr ⟨k_21_2, List.forall_mem_cons.mpr ⟨k_21_3, List.forall_mem_cons.mpr ⟨k_21_6, List.forall_mem_cons.mpr ⟨k_21_7, List.forall_mem_cons.mpr ⟨k_21_8, List.forall_mem_cons.mpr ⟨k_21_9, fun _ h => absurd h List.not_mem_nil⟩⟩⟩⟩⟩⟩⟩⟩
def B21_1 : List (Nat × aO) := [(10, oB1 b_if_lt q_lt 37 13), (13, oLA 0 14), (14, oGe 0 9 17), (17, oLI 2 18), (18, oLI 1 19), (19, oAT 20), (20, oLI 1 21), (21, oS (gKo (.int 1)) 22)]
theorem B21_1_ok : ∀ q ∈ B21_1, Ok M21 q.1 q.2 := List.forall_mem_cons.mpr ⟨k_21_10, List.forall_mem_cons.mpr ⟨k_21_13, List.forall_mem_cons.mpr ⟨k_21_14, List.forall_mem_cons.mpr ⟨k_21_17, List.forall_mem_cons.mpr ⟨k_21_18, List.forall_mem_cons.mpr ⟨k_21_19, List.forall_mem_cons.mpr ⟨k_21_20, List.forall_mem_cons.mpr ⟨k_21_21, fun _ h => absurd h List.not_mem_nil⟩⟩⟩⟩⟩⟩⟩⟩
def B21_2 : List (Nat × aO) := [(22, oLA 0 23), (23, oGe 0 8 26), (26, oLI 2 27), (27, oAI 28), (28, oS (gI2 f_ishl) 29), (29, oS (gI2 f_ior) 30), (30, oSI 1 3 31), (31, oInc 2 (-1) 3 34)]
theorem B21_2_ok : ∀ q ∈ B21_2, Ok M21 q.1 q.2 := List.forall_mem_cons.mpr ⟨k_21_22, List.forall_mem_cons.mpr ⟨k_21_23, List.forall_mem_cons.mpr ⟨k_21_26, List.forall_mem_cons.mpr ⟨k_21_27, List.forall_mem_cons.mpr ⟨k_21_28, List.forall_mem_cons.mpr ⟨k_21_29, List.forall_mem_cons.mpr ⟨k_21_30, List.forall_mem_cons.mpr ⟨k_21_31, fun _ h => absurd h List.not_mem_nil⟩⟩⟩⟩⟩⟩⟩⟩
def B21_3 : List (Nat × aO) := [(34, oGo 9), (37, oRV)]
theorem B21_3_ok : ∀ q ∈ B21_3, Ok M21 q.1 q.2 := List.forall_mem_cons.mpr ⟨k_21_34, List.forall_mem_cons.mpr ⟨k_21_37, fun _ h => absurd h List.not_mem_nil⟩⟩
def P21 : List (Nat × List (Nat × aO)) := [(9, B21_0), (21, B21_1), (31, B21_2), (37, B21_3)]
theorem P21_ok : ∀ b ∈ P21, ∀ q ∈ b.2, Ok M21 q.1 q.2 := List.forall_mem_cons.mpr ⟨B21_0_ok, List.forall_mem_cons.mpr ⟨B21_1_ok, List.forall_mem_cons.mpr ⟨B21_2_ok, List.forall_mem_cons.mpr ⟨B21_3_ok, fun _ h => absurd h List.not_mem_nil⟩⟩⟩⟩
theorem k_22_0 : Ok M22 0 (oLA 0 1) := r_aload_n (j := 0) (by decide +kernel) rfl
theorem k_22_1 : Ok M22 1 (oGe 0 3 4) := r_get (idx := 15) (by decide +kernel) cd_0 3 (by decide) w_140 rfl
theorem k_22_4 : Ok M22 4 (oLI 1 5) := r_iload_n (j := 1) (by decide +kernel) rfl
theorem k_22_5 : Ok M22 5 (oAI 6) := r_iaload (by decide +kernel)
theorem k_22_6 : Ok M22 6 (oLA 0 7) := r_aload_n (j := 0) (by decide +kernel) rfl
theorem k_22_7 : Ok M22 7 (oLA 0 8) := r_aload_n (j := 0) (by decide +kernel) rfl
theorem k_22_8 : Ok M22 8 (oGe 0 10 11) := r_get (idx := 27) (by decide +kernel) cd_0 10 (by decide) w_153 rfl
theorem k_22_11 : Ok M22 11 (oLI 2 12) := r_iload_n (j := 2) (by decide +kernel) rfl
theorem k_22_12 : Ok M22 12 (oAI 13) := r_iaload (by decide +kernel)
theorem k_22_13 : Ok M22 13 (oCV 0 23 1) := r_callV (idx := 123) (by decide +kernel) w_266 cv_23
theorem k_22_16 : Ok M22 16 (oS (gI2 f_imul) 17) := r_imul (by decide +kernel)
theorem k_22_17 : Ok M22 17 (oSI 3 5 18) := r_istore_n (j := 3) (by decide +kernel) rfl
theorem k_22_18 : Ok M22 18 (oLA 0 19) := r_aload_n (j := 0) (by decide +kernel) rfl
theorem k_22_19 : Ok M22 19 (oGe 0 3 22) := r_get (idx := 15) (by decide +kernel) cd_0 3 (by decide) w_140 rfl
theorem k_22_22 : Ok M22 22 (oLI 2 23) := r_iload_n (j := 2) (by decide +kernel) rfl
theorem k_22_23 : Ok M22 23 (oAI 24) := r_iaload (by decide +kernel)
theorem k_22_24 : Ok M22 24 (oLA 0 25) := r_aload_n (j := 0) (by decide +kernel) rfl
theorem k_22_25 : Ok M22 25 (oLA 0 26) := r_aload_n (j := 0) (by decide +kernel) rfl
theorem k_22_26 : Ok M22 26 (oGe 0 10 29) := r_get (idx := 27) (by decide +kernel) cd_0 10 (by decide) w_153 rfl
theorem k_22_29 : Ok M22 29 (oLI 1 30) := r_iload_n (j := 1) (by decide +kernel) rfl
theorem k_22_30 : Ok M22 30 (oAI 31) := r_iaload (by decide +kernel)
theorem k_22_31 : Ok M22 31 (oCV 0 23 1) := r_callV (idx := 123) (by decide +kernel) w_266 cv_23
theorem k_22_34 : Ok M22 34 (oS (gI2 f_imul) 35) := r_imul (by decide +kernel)
theorem k_22_35 : Ok M22 35 (oSI 4 5 37) := r_istore (by decide +kernel)
theorem k_22_37 : Ok M22 37 (oLI 3 38) := r_iload_n (j := 3) (by decide +kernel) rfl
theorem k_22_38 : Ok M22 38 (oLI 4 40) := r_iload (by decide +kernel)
theorem k_22_40 : Ok M22 40 (oB2 b_icmp_eq q_eq 57 43) := r_icmp_eq (off := 17) (by decide +kernel) (by decide +kernel)
theorem k_22_43 : Ok M22 43 (oLI 3 44) := r_iload_n (j := 3) (by decide +kernel) rfl
theorem k_22_44 : Ok M22 44 (oLI 4 46) := r_iload (by decide +kernel)
theorem k_22_46 : Ok M22 46 (oB2 b_icmp_le q_le 53 49) := r_icmp_le (off := 7) (by decide +kernel) (by decide +kernel)
theorem k_22_49 : Ok M22 49 (oS (gKo (.int 1)) 50) := r_iconst (n := 1) (by decide +kernel) (by decide +kernel)
theorem k_22_50 : Ok M22 50 (oGo 77) := r_goto (off := 27) (by decide +kernel) (by decide +kernel)
theorem k_22_53 : Ok M22 53 (oS (gKo (.int 0)) 54) := r_iconst (n := 0) (by decide +kernel) (by decide +kernel)
theorem k_22_54 : Ok M22 54 (oGo 77) := r_goto (off := 23) (by decide +kernel) (by decide +kernel)
theorem k_22_57 : Ok M22 57 (oLA 0 58) := r_aload_n (j := 0) (by decide +kernel) rfl
theorem k_22_58 : Ok M22 58 (oGe 0 3 61) := r_get (idx := 15) (by decide +kernel) cd_0 3 (by decide) w_140 rfl
theorem k_22_61 : Ok M22 61 (oLI 1 62) := r_iload_n (j := 1) (by decide +kernel) rfl
theorem k_22_62 : Ok M22 62 (oAI 63) := r_iaload (by decide +kernel)
theorem k_22_63 : Ok M22 63 (oLA 0 64) := r_aload_n (j := 0) (by decide +kernel) rfl
theorem k_22_64 : Ok M22 64 (oGe 0 3 67) := r_get (idx := 15) (by decide +kernel) cd_0 3 (by decide) w_140 rfl
theorem k_22_67 : Ok M22 67 (oLI 2 68) := r_iload_n (j := 2) (by decide +kernel) rfl
theorem k_22_68 : Ok M22 68 (oAI 69) := r_iaload (by decide +kernel)
theorem k_22_69 : Ok M22 69 (oB2 b_icmp_le q_le 76 72) := r_icmp_le (off := 7) (by decide +kernel) (by decide +kernel)
theorem k_22_72 : Ok M22 72 (oS (gKo (.int 1)) 73) := r_iconst (n := 1) (by decide +kernel) (by decide +kernel)
theorem k_22_73 : Ok M22 73 (oGo 77) := r_goto (off := 4) (by decide +kernel) (by decide +kernel)
theorem k_22_76 : Ok M22 76 (oS (gKo (.int 0)) 77) := r_iconst (n := 0) (by decide +kernel) (by decide +kernel)
theorem k_22_77 : Ok M22 77 (oRZ) := r_zreturn rfl (by decide +kernel)
def B22_0 : List (Nat × aO) := [(0, oLA 0 1), (1, oGe 0 3 4), (4, oLI 1 5), (5, oAI 6), (6, oLA 0 7), (7, oLA 0 8), (8, oGe 0 10 11), (11, oLI 2 12)]
theorem B22_0_ok : ∀ q ∈ B22_0, Ok M22 q.1 q.2 := List.forall_mem_cons.mpr ⟨k_22_0, List.forall_mem_cons.mpr ⟨k_22_1, List.forall_mem_cons.mpr ⟨k_22_4, List.forall_mem_cons.mpr ⟨k_22_5, List.forall_mem_cons.mpr ⟨k_22_6, List.forall_mem_cons.mpr ⟨k_22_7, List.forall_mem_cons.mpr ⟨k_22_8, List.forall_mem_cons.mpr ⟨k_22_11, fun _ h => absurd h List.not_mem_nil⟩⟩⟩⟩⟩⟩⟩⟩
def B22_1 : List (Nat × aO) := [(12, oAI 13), (13, oCV 0 23 1), (16, oS (gI2 f_imul) 17), (17, oSI 3 5 18), (18, oLA 0 19), (19, oGe 0 3 22), (22, oLI 2 23), (23, oAI 24)]
theorem B22_1_ok : ∀ q ∈ B22_1, Ok M22 q.1 q.2 := List.forall_mem_cons.mpr ⟨k_22_12, List.forall_mem_cons.mpr ⟨k_22_13, List.forall_mem_cons.mpr ⟨k_22_16, List.forall_mem_cons.mpr ⟨k_22_17, List.forall_mem_cons.mpr ⟨k_22_18, List.forall_mem_cons.mpr ⟨k_22_19, List.forall_mem_cons.mpr ⟨k_22_22, List.forall_mem_cons.mpr ⟨k_22_23, fun _ h => absurd h List.not_mem_nil⟩⟩⟩⟩⟩⟩⟩⟩
def B22_2 : List (Nat × aO) := [(24, oLA 0 25), (25, oLA 0 26), (26, oGe 0 10 29), (29, oLI 1 30), (30, oAI 31), (31, oCV 0 23 1), (34, oS (gI2 f_imul) 35), (35, oSI 4 5 37)]
theorem B22_2_ok : ∀ q ∈ B22_2, Ok M22 q.1 q.2 := List.forall_mem_cons.mpr ⟨k_22_24, List.forall_mem_cons.mpr ⟨k_22_25, List.forall_mem_cons.mpr ⟨k_22_26, List.forall_mem_cons.mpr ⟨k_22_29, List.forall_mem_cons.mpr ⟨k_22_30, List.forall_mem_cons.mpr ⟨k_22_31, List.forall_mem_cons.mpr ⟨k_22_34, List.forall_mem_cons.mpr ⟨k_22_35, fun _ h => absurd h List.not_mem_nil⟩⟩⟩⟩⟩⟩⟩⟩
def B22_3 : List (Nat × aO) := [(37, oLI 3 38), (38, oLI 4 40), (40, oB2 b_icmp_eq q_eq 57 43), (43, oLI 3 44), (44, oLI 4 46), (46, oB2 b_icmp_le q_le 53 49), (49, oS (gKo (.int 1)) 50), (50, oGo 77)]
theorem B22_3_ok : ∀ q ∈ B22_3, Ok M22 q.1 q.2 := List.forall_mem_cons.mpr ⟨k_22_37, List.forall_mem_cons.mpr ⟨k_22_38, List.forall_mem_cons.mpr ⟨k_22_40, List.forall_mem_cons.mpr ⟨k_22_43, List.forall_mem_cons.mpr ⟨k_22_44, List.forall_mem_cons.mpr ⟨k_22_46, List.forall_mem_cons.mpr ⟨k_22_49, List.forall_mem_cons.mpr ⟨k_22_50, fun _ h => absurd h List.not_mem_nil⟩⟩⟩⟩⟩⟩⟩⟩
def B22_4 : List (Nat × aO) := [(53, oS (gKo (.int 0)) 54), (54, oGo 77), (57, oLA 0 58), (58, oGe 0 3 61), (61, oLI 1 62), (62, oAI 63), (63, oLA 0 64), (64, oGe 0 3 67)]
theorem B22_4_ok : ∀ q ∈ B22_4, Ok M22 q.1 q.2 := List.forall_mem_cons.mpr ⟨k_22_53, List.forall_mem_cons.mpr ⟨k_22_54, List.forall_mem_cons.mpr ⟨k_22_57, List.forall_mem_cons.mpr ⟨k_22_58, List.forall_mem_cons.mpr ⟨k_22_61, List.forall_mem_cons.mpr ⟨k_22_62, List.forall_mem_cons.mpr ⟨k_22_63, List.forall_mem_cons.mpr ⟨k_22_64, fun _ h => absurd h List.not_mem_nil⟩⟩⟩⟩⟩⟩⟩⟩
def B22_5 : List (Nat × aO) := [(67, oLI 2 68), (68, oAI 69), (69, oB2 b_icmp_le q_le 76 72), (72, oS (gKo (.int 1)) 73), (73, oGo 77), (76, oS (gKo (.int 0)) 77), (77, oRZ)]
theorem B22_5_ok : ∀ q ∈ B22_5, Ok M22 q.1 q.2 := List.forall_mem_cons.mpr ⟨k_22_67, List.forall_mem_cons.mpr ⟨k_22_68, List.forall_mem_cons.mpr ⟨k_22_69, List.forall_mem_cons.mpr ⟨k_22_72, List.forall_mem_cons.mpr ⟨k_22_73, List.forall_mem_cons.mpr ⟨k_22_76, List.forall_mem_cons.mpr ⟨k_22_77, fun _ h => absurd h List.not_mem_nil⟩⟩⟩⟩⟩⟩⟩
def P22 : List (Nat × List (Nat × aO)) := [(11, B22_0), (23, B22_1), (35, B22_2), (50, B22_3), (64, B22_4), (77, B22_5)]
theorem P22_ok : ∀ b ∈ P22, ∀ q ∈ b.2, Ok M22 q.1 q.2 := List.forall_mem_cons.mpr ⟨B22_0_ok, List.forall_mem_cons.mpr ⟨B22_1_ok, List.forall_mem_cons.mpr ⟨B22_2_ok, List.forall_mem_cons.mpr ⟨B22_3_ok, List.forall_mem_cons.mpr ⟨B22_4_ok, List.forall_mem_cons.mpr ⟨B22_5_ok, fun _ h => absurd h List.not_mem_nil⟩⟩⟩⟩⟩⟩
theorem k_23_0 : Ok M23 0 (oLA 0 1) := r_aload_n (j := 0) (by decide +kernel) rfl
theorem k_23_1 : Ok M23 1 (oGe 0 6 4) := r_get (idx := 63) (by decide +kernel) cd_0 6 (by decide) w_147 rfl
theorem k_23_4 : Ok M23 4 (oTb [36, 40, 46, 50] 56) := r_table (dflt := 52) (hi := 3) (offs := #[32, 36, 42, 46]) (len := 32) (by decide +kernel) (by decide +kernel) (by decide +kernel) (by decide +kernel)
theorem k_23_36 : Ok M23 36 (oLI 1 37) := r_iload_n (j := 1) (by decide +kernel) rfl
theorem k_23_37 : Ok M23 37 (oS (gKo (.int 1)) 38) := r_iconst (n := 1) (by decide +kernel) (by decide +kernel)
theorem k_23_38 : Ok M23 38 (oS (gI2 f_iadd) 39) := r_iadd (by decide +kernel)
theorem k_23_39 : Ok M23 39 (oRI) := r_ireturn rfl (by decide +kernel)
theorem k_23_40 : Ok M23 40 (oS (gKo (.int 2)) 41) := r_iconst (n := 2) (by decide +kernel) (by decide +kernel)
theorem k_23_41 : Ok M23 41 (oLI 1 42) := r_iload_n (j := 1) (by decide +kernel) rfl
theorem k_23_42 : Ok M23 42 (oS (gI2 f_imul) 43) := r_imul (by decide +kernel)
theorem k_23_43 : Ok M23 43 (oS (gKo (.int 1)) 44) := r_iconst (n := 1) (by decide +kernel) (by decide +kernel)
theorem k_23_44 : Ok M23 44 (oS (gI2 f_iadd) 45) := r_iadd (by decide +kernel)
theorem k_23_45 : Ok M23 45 (oRI) := r_ireturn rfl (by decide +kernel)
theorem k_23_46 : Ok M23 46 (oLI 1 47) := r_iload_n (j := 1) (by decide +kernel) rfl
theorem k_23_47 : Ok M23 47 (oS (gKo (.int 2)) 48) := r_iconst (n := 2) (by decide +kernel) (by decide +kernel)
theorem k_23_48 : Ok M23 48 (oS (gI2 f_iadd) 49) := r_iadd (by decide +kernel)
theorem k_23_49 : Ok M23 49 (oRI) := r_ireturn rfl (by decide +kernel)
theorem k_23_50 : Ok M23 50 (oS (gKo (.int 3)) 51) := r_iconst (n := 3) (by decide +kernel) (by decide +kernel)
theorem k_23_51 : Ok M23 51 (oLI 1 52) := r_iload_n (j := 1) (by decide +kernel) rfl
theorem k_23_52 : Ok M23 52 (oS (gI2 f_imul) 53) := r_imul (by decide +kernel)
theorem k_23_53 : Ok M23 53 (oS (gKo (.int 1)) 54) := r_iconst (n := 1) (by decide +kernel) (by decide +kernel)
theorem k_23_54 : Ok M23 54 (oS (gI2 f_iadd) 55) := r_iadd (by decide +kernel)
theorem k_23_55 : Ok M23 55 (oRI) := r_ireturn rfl (by decide +kernel)
theorem k_23_56 : Ok M23 56 (oLI 1 57) := r_iload_n (j := 1) (by decide +kernel) rfl
theorem k_23_57 : Ok M23 57 (oB1 b_if_ne q_ne 65 60) := r_if_ne (off := 8) (by decide +kernel) (by decide +kernel)
theorem k_23_60 : Ok M23 60 (oS (gKo (.int 7)) 62) := r_bipush (n := 7) (by decide +kernel) (by decide +kernel)
theorem k_23_62 : Ok M23 62 (oGo 71) := r_goto (off := 9) (by decide +kernel) (by decide +kernel)
theorem k_23_65 : Ok M23 65 (oS (gKo (.int 10)) 67) := r_bipush (n := 10) (by decide +kernel) (by decide +kernel)
theorem k_23_67 : Ok M23 67 (oLI 1 68) := r_iload_n (j := 1) (by decide +kernel) rfl
theorem k_23_68 : Ok M23 68 (oS (gI2 f_imul) 69) := r_imul (by decide +kernel)
theorem k_23_69 : Ok M23 69 (oS (gKo (.int 5)) 70) := r_iconst (n := 5) (by decide +kernel) (by decide +kernel)
theorem k_23_70 : Ok M23 70 (oS (gI2 f_iadd) 71) := r_iadd (by decide +kernel)
theorem k_23_71 : Ok M23 71 (oRI) := r_ireturn rfl (by decide +kernel)
def B23_0 : List (Nat × aO) := [(0, oLA 0 1), (1, oGe 0 6 4), (4, oTb [36, 40, 46, 50] 56), (36, oLI 1 37), (37, oS (gKo (.int 1)) 38), (38, oS (gI2 f_iadd) 39), (39, oRI), (40, oS (gKo (.int 2)) 41)]
theorem B23_0_ok : ∀ q ∈ B23_0, Ok M23 q.1 q.2 := List.forall_mem_cons.mpr ⟨k_23_0, List.forall_mem_cons.mpr ⟨k_23_1, List.forall_mem_cons.mpr ⟨k_23_4, List.forall_mem_cons.mpr ⟨k_23_36, List.forall_mem_cons.mpr ⟨k_23_37, List.forall_mem_cons.mpr ⟨k_23_38, List.forall_mem_cons.mpr ⟨k_23_39, List.forall_mem_cons.mpr ⟨k_23_40, fun _ h => absurd h List.not_mem_nil⟩⟩⟩⟩⟩⟩⟩⟩
def B23_1 : List (Nat × aO) := [(41, oLI 1 42), (42, oS (gI2 f_imul) 43), (43, oS (gKo (.int 1)) 44), (44, oS (gI2 f_iadd) 45), (45, oRI), (46, oLI 1 47), (47, oS (gKo (.int 2)) 48), (48, oS (gI2 f_iadd) 49)]
theorem B23_1_ok : ∀ q ∈ B23_1, Ok M23 q.1 q.2 := List.forall_mem_cons.mpr ⟨k_23_41, List.forall_mem_cons.mpr ⟨k_23_42, List.forall_mem_cons.mpr ⟨k_23_43, List.forall_mem_cons.mpr ⟨k_23_44, List.forall_mem_cons.mpr ⟨k_23_45, List.forall_mem_cons.mpr ⟨k_23_46, List.forall_mem_cons.mpr ⟨k_23_47, List.forall_mem_cons.mpr ⟨k_23_48, fun _ h => absurd h List.not_mem_nil⟩⟩⟩⟩⟩⟩⟩⟩
def B23_2 : List (Nat × aO) := [(49, oRI), (50, oS (gKo (.int 3)) 51), (51, oLI 1 52), (52, oS (gI2 f_imul) 53), (53, oS (gKo (.int 1)) 54), (54, oS (gI2 f_iadd) 55), (55, oRI), (56, oLI 1 57)]
theorem B23_2_ok : ∀ q ∈ B23_2, Ok M23 q.1 q.2 := List.forall_mem_cons.mpr ⟨k_23_49, List.forall_mem_cons.mpr ⟨k_23_50, List.forall_mem_cons.mpr ⟨k_23_51, List.forall_mem_cons.mpr ⟨k_23_52, List.forall_mem_cons.mpr ⟨k_23_53, List.forall_mem_cons.mpr ⟨k_23_54, List.forall_mem_cons.mpr ⟨k_23_55, List.forall_mem_cons.mpr ⟨k_23_56, fun _ h => absurd h List.not_mem_nil⟩⟩⟩⟩⟩⟩⟩⟩
def B23_3 : List (Nat × aO) := [(57, oB1 b_if_ne q_ne 65 60), (60, oS (gKo (.int 7)) 62), (62, oGo 71), (65, oS (gKo (.int 10)) 67), (67, oLI 1 68), (68, oS (gI2 f_imul) 69), (69, oS (gKo (.int 5)) 70), (70, oS (gI2 f_iadd) 71)]
theorem B23_3_ok : ∀ q ∈ B23_3, Ok M23 q.1 q.2 := List.forall_mem_cons.mpr ⟨k_23_57, List.forall_mem_cons.mpr ⟨k_23_60, List.forall_mem_cons.mpr ⟨k_23_62, List.forall_mem_cons.mpr ⟨k_23_65, List.forall_mem_cons.mpr ⟨k_23_67, List.forall_mem_cons.mpr ⟨k_23_68, List.forall_mem_cons.mpr ⟨k_23_69, List.forall_mem_cons.mpr ⟨k_23_70, fun _ h => absurd h List.not_mem_nil⟩⟩⟩⟩⟩⟩⟩⟩
def B23_4 : List (Nat × aO) := [(71, oRI)]
theorem B23_4_ok : ∀ q ∈ B23_4, Ok M23 q.1 q.2 := List.forall_mem_cons.mpr ⟨k_23_71, fun _ h => absurd h List.not_mem_nil⟩
def P23 : List (Nat × List (Nat × aO)) := [(40, B23_0), (48, B23_1), (56, B23_2), (70, B23_3), (71, B23_4)]
theorem P23_ok : ∀ b ∈ P23, ∀ q ∈ b.2, Ok M23 q.1 q.2 := List.forall_mem_cons.mpr ⟨B23_0_ok, List.forall_mem_cons.mpr ⟨B23_1_ok, List.forall_mem_cons.mpr ⟨B23_2_ok, List.forall_mem_cons.mpr ⟨B23_3_ok, List.forall_mem_cons.mpr ⟨B23_4_ok, fun _ h => absurd h List.not_mem_nil⟩⟩⟩⟩⟩
theorem k_24_0 : Ok M24 0 (oS (gKo (.int 0)) 1) := r_iconst (n := 0) (by decide +kernel) (by decide +kernel)
theorem k_24_1 : Ok M24 1 (oSI 1 4 2) := r_istore_n (j := 1) (by decide +kernel) rfl
theorem k_24_2 : Ok M24 2 (oLI 1 3) := r_iload_n (j := 1) (by decide +kernel) rfl
theorem k_24_3 : Ok M24 3 (oLA 0 4) := r_aload_n (j := 0) (by decide +kernel) rfl
theorem k_24_4 : Ok M24 4 (oGe 0 2 7) := r_get (idx := 46) (by decide +kernel) cd_0 2 (by decide) w_136 rfl
theorem k_24_7 : Ok M24 7 (oB2 b_icmp_ge q_ge 79 10) := r_icmp_ge (off := 72) (by decide +kernel) (by decide +kernel)
theorem k_24_10 : Ok M24 10 (oS (gKo (.int 0)) 11) := r_iconst (n := 0) (by decide +kernel) (by decide +kernel)
theorem k_24_11 : Ok M24 11 (oSI 2 4 12) := r_istore_n (j := 2) (by decide +kernel) rfl
theorem k_24_12 : Ok M24 12 (oS (gKo (.int 0)) 13) := r_iconst (n := 0) (by decide +kernel) (by decide +kernel)
theorem k_24_13 : Ok M24 13 (oSI 3 4 14) := r_istore_n (j := 3) (by decide +kernel) rfl
theorem k_24_14 : Ok M24 14 (oLI 3 15) := r_iload_n (j := 3) (by decide +kernel) rfl
theorem k_24_15 : Ok M24 15 (oLA 0 16) := r_aload_n (j := 0) (by decide +kernel) rfl
theorem k_24_16 : Ok M24 16 (oGe 0 2 19) := r_get (idx := 46) (by decide +kernel) cd_0 2 (by decide) w_136 rfl
theorem k_24_19 : Ok M24 19 (oB2 b_icmp_ge q_ge 66 22) := r_icmp_ge (off := 47) (by decide +kernel) (by decide +kernel)
theorem k_24_22 : Ok M24 22 (oLA 0 23) := r_aload_n (j := 0) (by decide +kernel) rfl
theorem k_24_23 : Ok M24 23 (oGe 0 3 26) := r_get (idx := 15) (by decide +kernel) cd_0 3 (by decide) w_140 rfl
theorem k_24_26 : Ok M24 26 (oLI 3 27) := r_iload_n (j := 3) (by decide +kernel) rfl
theorem k_24_27 : Ok M24 27 (oAI 28) := r_iaload (by decide +kernel)
theorem k_24_28 : Ok M24 28 (oLA 0 29) := r_aload_n (j := 0) (by decide +kernel) rfl
theorem k_24_29 : Ok M24 29 (oGe 0 3 32) := r_get (idx := 15) (by decide +kernel) cd_0 3 (by decide) w_140 rfl
theorem k_24_32 : Ok M24 32 (oLI 1 33) := r_iload_n (j := 1) (by decide +kernel) rfl
theorem k_24_33 : Ok M24 33 (oAI 34) := r_iaload (by decide +kernel)
theorem k_24_34 : Ok M24 34 (oB2 b_icmp_gt q_gt 57 37) := r_icmp_gt (off := 23) (by decide +kernel) (by decide +kernel)
theorem k_24_37 : Ok M24 37 (oLA 0 38) := r_aload_n (j := 0) (by decide +kernel) rfl
theorem k_24_38 : Ok M24 38 (oGe 0 3 41) := r_get (idx := 15) (by decide +kernel) cd_0 3 (by decide) w_140 rfl
theorem k_24_41 : Ok M24 41 (oLI 3 42) := r_iload_n (j := 3) (by decide +kernel) rfl
theorem k_24_42 : Ok M24 42 (oAI 43) := r_iaload (by decide +kernel)
theorem k_24_43 : Ok M24 43 (oLA 0 44) := r_aload_n (j := 0) (by decide +kernel) rfl
theorem k_24_44 : Ok M24 44 (oGe 0 3 47) := r_get (idx := 15) (by decide +kernel) cd_0 3 (by decide) w_140 rfl
theorem k_24_47 : Ok M24 47 (oLI 1 48) := r_iload_n (j := 1) (by decide +kernel) rfl
theorem k_24_48 : Ok M24 48 (oAI 49) := r_iaload (by decide +kernel)
theorem k_24_49 : Ok M24 49 (oB2 b_icmp_ne q_ne 60 52) := r_icmp_ne (off := 11) (by decide +kernel) (by decide +kernel)
theorem k_24_52 : Ok M24 52 (oLI 3 53) := r_iload_n (j := 3) (by decide +kernel) rfl
theorem k_24_53 : Ok M24 53 (oLI 1 54) := r_iload_n (j := 1) (by decide +kernel) rfl
theorem k_24_54 : Ok M24 54 (oB2 b_icmp_ge q_ge 60 57) := r_icmp_ge (off := 6) (by decide +kernel) (by decide +kernel)
theorem k_24_57 : Ok M24 57 (oInc 2 1 4 60) := r_iinc (n := 1) (by decide +kernel) (by decide +kernel)
theorem k_24_60 : Ok M24 60 (oInc 3 1 4 63) := r_iinc (n := 1) (by decide +kernel) (by decide +kernel)
theorem k_24_63 : Ok M24 63 (oGo 14) := r_goto (off := (-49)) (by decide +kernel) (by decide +kernel)
theorem k_24_66 : Ok M24 66 (oLA 0 67) := r_aload_n (j := 0) (by decide +kernel) rfl
theorem k_24_67 : Ok M24 67 (oGe 0 11 70) := r_get (idx := 30) (by decide +kernel) cd_0 11 (by decide) w_155 rfl
theorem k_24_70 : Ok M24 70 (oLI 2 71) := r_iload_n (j := 2) (by decide +kernel) rfl
theorem k_24_71 : Ok M24 71 (oLI 1 72) := r_iload_n (j := 1) (by decide +kernel) rfl
theorem k_24_72 : Ok M24 72 (oAT 73) := r_iastore (by decide +kernel)
theorem k_24_73 : Ok M24 73 (oInc 1 1 4 76) := r_iinc (n := 1) (by decide +kernel) (by decide +kernel)
theorem k_24_76 : Ok M24 76 (oGo 2) := r_goto (off := (-74)) (by decide +kernel) (by decide +kernel)
theorem k_24_79 : Ok M24 79 (oRV) := r_return rfl (by decide +kernel)
def B24_0 : List (Nat × aO) := [(0, oS (gKo (.int 0)) 1), (1, oSI 1 4 2), (2, oLI 1 3), (3, oLA 0 4), (4, oGe 0 2 7), (7, oB2 b_icmp_ge q_ge 79 10), (10, oS (gKo (.int 0)) 11), (11, oSI 2 4 12)]
theorem B24_0_ok : ∀ q ∈ B24_0, Ok M24 q.1 q.2 := List.forall_mem_cons.mpr ⟨k_24_0, List.forall_mem_cons.mpr ⟨k_24_1, List.forall_mem_cons.mpr ⟨k_24_2, List.forall_mem_cons.mpr ⟨k_24_3, List.forall_mem_cons.mpr ⟨k_24_4, List.forall_mem_cons.mpr ⟨k_24_7, List.forall_mem_cons.mpr ⟨k_24_10, List.forall_mem_cons.mpr ⟨k_24_11, fun _ h => absurd h List.not_mem_nil⟩⟩⟩⟩⟩⟩⟩⟩
def B24_1 : List (Nat × aO) := [(12, oS (gKo (.int 0)) 13), (13, oSI 3 4 14), (14, oLI 3 15), (15, oLA 0 16), (16, oGe 0 2 19), (19, oB2 b_icmp_ge q_ge 66 22), (22, oLA 0 23), (23, oGe 0 3 26)]
theorem B24_1_ok : ∀ q ∈ B24_1, Ok M24 q.1 q.2 := List.forall_mem_cons.mpr ⟨k_24_12, List.forall_mem_cons.mpr ⟨k_24_13, List.forall_mem_cons.mpr ⟨k_24_14, List.forall_mem_cons.mpr ⟨k_24_15, List.forall_mem_cons.mpr ⟨k_24_16, List.forall_mem_cons.mpr ⟨k_24_19, List.forall_mem_cons.mpr ⟨k_24_22, List.forall_mem_cons.mpr ⟨k_24_23, fun _ h => absurd h List.not_mem_nil⟩⟩⟩⟩⟩⟩⟩⟩
def B24_2 : List (Nat × aO) := [(26, oLI 3 27), (27, oAI 28), (28, oLA 0 29), (29, oGe 0 3 32), (32, oLI 1 33), (33, oAI 34), (34, oB2 b_icmp_gt q_gt 57 37), (37, oLA 0 38)]
theorem B24_2_ok : ∀ q ∈ B24_2, Ok M24 q.1 q.2 := List.forall_mem_cons.mpr ⟨k_24_26, List.forall_mem_cons.mpr ⟨k_24_27, List.forall_mem_cons.mpr ⟨k_24_28, List.forall_mem_cons.mpr ⟨k_24_29, List.forall_mem_cons.mpr ⟨k_24_32, List.forall_mem_cons.mpr ⟨k_24_33, List.forall_mem_cons.mpr ⟨k_24_34, List.forall_mem_cons.mpr ⟨k_24_37, fun _ h => absurd h List.not_mem_nil⟩⟩⟩⟩⟩⟩⟩⟩
def B24_3 : List (Nat × aO) := [(38, oGe 0 3 41), (41, oLI 3 42), (42, oAI 43), (43, oLA 0 44), (44, oGe 0 3 47), (47, oLI 1 48), (48, oAI 49), (49, oB2 b_icmp_ne q_ne 60 52)]
theorem B24_3_ok : ∀ q ∈ B24_3, Ok M24 q.1 q.2 := List.forall_mem_cons.mpr ⟨k_24_38, List.forall_mem_cons.mpr ⟨k_24_41, List.forall_mem_cons.mpr ⟨k_24_42, List.forall_mem_cons.mpr ⟨k_24_43, List.forall_mem_cons.mpr ⟨k_24_44, List.forall_mem_cons.mpr ⟨k_24_47, List.forall_mem_cons.mpr ⟨k_24_48, List.forall_mem_cons.mpr ⟨k_24_49, fun _ h => absurd h List.not_mem_nil⟩⟩⟩⟩⟩⟩⟩⟩
def B24_4 : List (Nat × aO) := [(52, oLI 3 53), (53, oLI 1 54), (54, oB2 b_icmp_ge q_ge 60 57), (57, oInc 2 1 4 60), (60, oInc 3 1 4 63), (63, oGo 14), (66, oLA 0 67), (67, oGe 0 11 70)]
theorem B24_4_ok : ∀ q ∈ B24_4, Ok M24 q.1 q.2 := List.forall_mem_cons.mpr ⟨k_24_52, List.forall_mem_cons.mpr ⟨k_24_53, List.forall_mem_cons.mpr ⟨k_24_54, List.forall_mem_cons.mpr ⟨k_24_57, List.forall_mem_cons.mpr ⟨k_24_60, List.forall_mem_cons.mpr ⟨k_24_63, List.forall_mem_cons.mpr ⟨k_24_66, List.forall_mem_cons.mpr ⟨k_24_67, fun _ h => absurd h List.not_mem_nil⟩⟩⟩⟩⟩⟩⟩⟩
def B24_5 : List (Nat × aO) := [(70, oLI 2 71), (71, oLI 1 72), (72, oAT 73), (73, oInc 1 1 4 76), (76, oGo 2), (79, oRV)]
theorem B24_5_ok : ∀ q ∈ B24_5, Ok M24 q.1 q.2 := List.forall_mem_cons.mpr ⟨k_24_70, List.forall_mem_cons.mpr ⟨k_24_71, List.forall_mem_cons.mpr ⟨k_24_72, List.forall_mem_cons.mpr ⟨k_24_73, List.forall_mem_cons.mpr ⟨k_24_76, List.forall_mem_cons.mpr ⟨k_24_79, fun _ h => absurd h List.not_mem_nil⟩⟩⟩⟩⟩⟩
def P24 : List (Nat × List (Nat × aO)) := [(11, B24_0), (23, B24_1), (37, B24_2), (49, B24_3), (67, B24_4), (79, B24_5)]
theorem P24_ok : ∀ b ∈ P24, ∀ q ∈ b.2, Ok M24 q.1 q.2 := List.forall_mem_cons.mpr ⟨B24_0_ok, List.forall_mem_cons.mpr ⟨B24_1_ok, List.forall_mem_cons.mpr ⟨B24_2_ok, List.forall_mem_cons.mpr ⟨B24_3_ok, List.forall_mem_cons.mpr ⟨B24_4_ok, List.forall_mem_cons.mpr ⟨B24_5_ok, fun _ h => absurd h List.not_mem_nil⟩⟩⟩⟩⟩⟩
theorem k_25_0 : Ok M25 0 (oLA 0 1) := r_aload_n (j := 0) (by decide +kernel) rfl
theorem k_25_1 : Ok M25 1 (oGe 0 12 4) := r_get (idx := 49) (by decide +kernel) cd_0 12 (by decide) w_157 rfl
theorem k_25_4 : Ok M25 4 (oLA 0 5) := r_aload_n (j := 0) (by decide +kernel) rfl
theorem k_25_5 : Ok M25 5 (oCV 0 5 0) := r_callV (idx := 115) (by decide +kernel) w_258 cv_5
theorem k_25_8 : Ok M25 8 (oB2 b_icmp_ge q_ge 36 11) := r_icmp_ge (off := 28) (by decide +kernel) (by decide +kernel)
theorem k_25_11 : Ok M25 11 (oLA 0 12) := r_aload_n (j := 0) (by decide +kernel) rfl
theorem k_25_12 : Ok M25 12 (oGe 0 13 15) := r_get (idx := 33) (by decide +kernel) cd_0 13 (by decide) w_159 rfl
theorem k_25_15 : Ok M25 15 (oLI 1 16) := r_iload_n (j := 1) (by decide +kernel) rfl
theorem k_25_16 : Ok M25 16 (oAI 17) := r_iaload (by decide +kernel)
theorem k_25_17 : Ok M25 17 (oS (gKo (.int (-1))) 18) := r_iconst (n := (-1)) (by decide +kernel) (by decide +kernel)
theorem k_25_18 : Ok M25 18 (oB2 b_icmp_ne q_ne 36 21) := r_icmp_ne (off := 18) (by decide +kernel) (by decide +kernel)
theorem k_25_21 : Ok M25 21 (oLA 0 22) := r_aload_n (j := 0) (by decide +kernel) rfl
theorem k_25_22 : Ok M25 22 (oGe 0 16 25) := r_get (idx := 100) (by decide +kernel) cd_0 16 (by decide) w_168 rfl
theorem k_25_25 : Ok M25 25 (oLI 1 26) := r_iload_n (j := 1) (by decide +kernel) rfl
theorem k_25_26 : Ok M25 26 (oCS 94 2) := r_callSN (idx := 82) (host := RX4) (by decide +kernel) (fun _ _ h => h.2.2.2.2.2.1) cs_94
theorem k_25_29 : Ok M25 29 (oB1 b_if_ne q_ne 36 32) := r_if_ne (off := 7) (by decide +kernel) (by decide +kernel)
theorem k_25_32 : Ok M25 32 (oS (gKo (.int 1)) 33) := r_iconst (n := 1) (by decide +kernel) (by decide +kernel)
theorem k_25_33 : Ok M25 33 (oGo 37) := r_goto (off := 4) (by decide +kernel) (by decide +kernel)
theorem k_25_36 : Ok M25 36 (oS (gKo (.int 0)) 37) := r_iconst (n := 0) (by decide +kernel) (by decide +kernel)
theorem k_25_37 : Ok M25 37 (oRZ) := r_zreturn rfl (by decide +kernel)
def B25_0 : List (Nat × aO) := [(0, oLA 0 1), (1, oGe 0 12 4), (4, oLA 0 5), (5, oCV 0 5 0), (8, oB2 b_icmp_ge q_ge 36 11), (11, oLA 0 12), (12, oGe 0 13 15), (15, oLI 1 16)]
theorem B25_0_ok : ∀ q ∈ B25_0, Ok M25 q.1 q.2 := List.forall_mem_cons.mpr ⟨k_25_0, List.forall_mem_cons.mpr ⟨k_25_1, List.forall_mem_cons.mpr ⟨k_25_4, List.forall_mem_cons.mpr ⟨k_25_5, List.forall_mem_cons.mpr ⟨k_25_8, List.forall_mem_cons.mpr ⟨k_25_11, List.forall_mem_cons.mpr ⟨k_25_12, List.forall_mem_cons.mpr ⟨k_25_15, fun _ h => absurd h List.not_mem_nil⟩⟩⟩⟩⟩⟩⟩⟩
def B25_1 : List (Nat × aO) := [(16, oAI 17), (17, oS (gKo (.int (-1))) 18), (18, oB2 b_icmp_ne q_ne 36 21), (21, oLA 0 22), (22, oGe 0 16 25), (25, oLI 1 26), (26, oCS 94 2), (29, oB1 b_if_ne q_ne 36 32)]
theorem B25_1_ok : ∀ q ∈ B25_1, Ok M25 q.1 q.2 := List.forall_mem_cons.mpr ⟨k_25_16, List.forall_mem_cons.mpr ⟨k_25_17, List.forall_mem_cons.mpr ⟨k_25_18, List.forall_mem_cons.mpr ⟨k_25_21, List.forall_mem_cons.mpr ⟨k_25_22, List.forall_mem_cons.mpr ⟨k_25_25, List.forall_mem_cons.mpr ⟨k_25_26, List.forall_mem_cons.mpr ⟨k_25_29, fun _ h => absurd h List.not_mem_nil⟩⟩⟩⟩⟩⟩⟩⟩
def B25_2 : List (Nat × aO) := [(32, oS (gKo (.int 1)) 33), (33, oGo 37), (36, oS (gKo (.int 0)) 37), (37, oRZ)]
theorem B25_2_ok : ∀ q ∈ B25_2, Ok M25 q.1 q.2 := List.forall_mem_cons.mpr ⟨k_25_32, List.forall_mem_cons.mpr ⟨k_25_33, List.forall_mem_cons.mpr ⟨k_25_36, List.forall_mem_cons.mpr ⟨k_25_37, fun _ h => absurd h List.not_mem_nil⟩⟩⟩⟩
def P25 : List (Nat × List (Nat × aO)) := [(15, B25_0), (29, B25_1), (37, B25_2)]
theorem P25_ok : ∀ b ∈ P25, ∀ q ∈ b.2, Ok M25 q.1 q.2 := List.forall_mem_cons.mpr ⟨B25_0_ok, List.forall_mem_cons.mpr ⟨B25_1_ok, List.forall_mem_cons.mpr ⟨B25_2_ok, fun _ h => absurd h List.not_mem_nil⟩⟩⟩
theorem k_26_0 : Ok M26 0 (oLA 0 1) := r_aload_n (j := 0) (by decide +kernel) rfl
theorem k_26_1 : Ok M26 1 (oLA 0 2) := r_aload_n (j := 0) (by decide +kernel) rfl
theorem k_26_2 : Ok M26 2 (oGe 0 12 5) := r_get (idx := 49) (by decide +kernel) cd_0 12 (by decide) w_157 rfl
theorem k_26_5 : Ok M26 5 (oCV 0 6 1) := r_callV (idx := 52) (by decide +kernel) w_453 cv_6
theorem k_26_8 : Ok M26 8 (oSI 2 3 9) := r_istore_n (j := 2) (by decide +kernel) rfl
theorem k_26_9 : Ok M26 9 (oLA 0 10) := r_aload_n (j := 0) (by decide +kernel) rfl
theorem k_26_10 : Ok M26 10 (oGe 0 13 13) := r_get (idx := 33) (by decide +kernel) cd_0 13 (by decide) w_159 rfl
theorem k_26_13 : Ok M26 13 (oLI 1 14) := r_iload_n (j := 1) (by decide +kernel) rfl
theorem k_26_14 : Ok M26 14 (oLI 2 15) := r_iload_n (j := 2) (by decide +kernel) rfl
theorem k_26_15 : Ok M26 15 (oAT 16) := r_iastore (by decide +kernel)
theorem k_26_16 : Ok M26 16 (oLA 0 17) := r_aload_n (j := 0) (by decide +kernel) rfl
theorem k_26_17 : Ok M26 17 (oGe 0 14 20) := r_get (idx := 36) (by decide +kernel) cd_0 14 (by decide) w_161 rfl
theorem k_26_20 : Ok M26 20 (oLI 1 21) := r_iload_n (j := 1) (by decide +kernel) rfl
theorem k_26_21 : Ok M26 21 (oLA 0 22) := r_aload_n (j := 0) (by decide +kernel) rfl
theorem k_26_22 : Ok M26 22 (oGe 0 12 25) := r_get (idx := 49) (by decide +kernel) cd_0 12 (by decide) w_157 rfl
theorem k_26_25 : Ok M26 25 (oAT 26) := r_iastore (by decide +kernel)
theorem k_26_26 : Ok M26 26 (oLA 0 27) := r_aload_n (j := 0) (by decide +kernel) rfl
theorem k_26_27 : Ok M26 27 (oS gDu 28) := r_dup (by decide +kernel)
theorem k_26_28 : Ok M26 28 (oGe 0 12 31) := r_get (idx := 49) (by decide +kernel) cd_0 12 (by decide) w_157 rfl
theorem k_26_31 : Ok M26 31 (oS (gKo (.int 1)) 32) := r_iconst (n := 1) (by decide +kernel) (by decide +kernel)
theorem k_26_32 : Ok M26 32 (oS (gI2 f_iadd) 33) := r_iadd (by decide +kernel)
theorem k_26_33 : Ok M26 33 (oPI 0 12 36) := r_putI (idx := 49) (by decide +kernel) cd_0 12 (by decide) w_157 rfl rfl (by decide +kernel)
theorem k_26_36 : Ok M26 36 (oLA 0 37) := r_aload_n (j := 0) (by decide +kernel) rfl
theorem k_26_37 : Ok M26 37 (oLI 1 38) := r_iload_n (j := 1) (by decide +kernel) rfl
theorem k_26_38 : Ok M26 38 (oPI 0 17 41) := r_putI (idx := 39) (by decide +kernel) cd_0 17 (by decide) w_169 rfl rfl (by decide +kernel)
theorem k_26_41 : Ok M26 41 (oLA 0 42) := r_aload_n (j := 0) (by decide +kernel) rfl
theorem k_26_42 : Ok M26 42 (oLA 0 43) := r_aload_n (j := 0) (by decide +kernel) rfl
theorem k_26_43 : Ok M26 43 (oGe 0 16 46) := r_get (idx := 100) (by decide +kernel) cd_0 16 (by decide) w_168 rfl
theorem k_26_46 : Ok M26 46 (oPI 0 18 49) := r_putI (idx := 103) (by decide +kernel) cd_0 18 (by decide) w_170 rfl rfl (by decide +kernel)
theorem k_26_49 : Ok M26 49 (oLA 0 50) := r_aload_n (j := 0) (by decide +kernel) rfl
theorem k_26_50 : Ok M26 50 (oS (gKo (.int 0)) 51) := r_iconst (n := 0) (by decide +kernel) (by decide +kernel)
theorem k_26_51 : Ok M26 51 (oPI 0 16 54) := r_putI (idx := 100) (by decide +kernel) cd_0 16 (by decide) w_168 rfl rfl (by decide +kernel)
theorem k_26_54 : Ok M26 54 (oLI 2 55) := r_iload_n (j := 2) (by decide +kernel) rfl
theorem k_26_55 : Ok M26 55 (oRI) := r_ireturn rfl (by decide +kernel)
def B26_0 : List (Nat × aO) := [(0, oLA 0 1), (1, oLA 0 2), (2, oGe 0 12 5), (5, oCV 0 6 1), (8, oSI 2 3 9), (9, oLA 0 10), (10, oGe 0 13 13), (13, oLI 1 14)]
theorem B26_0_ok : ∀ q ∈ B26_0, Ok M26 q.1 q.2 := List.forall_mem_cons.mpr ⟨k_26_0, List.forall_mem_cons.mpr ⟨k_26_1, List.forall_mem_cons.mpr ⟨k_26_2, List.forall_mem_cons.mpr ⟨k_26_5, List.forall_mem_cons.mpr ⟨k_26_8, List.forall_mem_cons.mpr ⟨k_26_9, List.forall_mem_cons.mpr ⟨k_26_10, List.forall_mem_cons.mpr ⟨k_26_13, fun _ h => absurd h List.not_mem_nil⟩⟩⟩⟩⟩⟩⟩⟩
def B26_1 : List (Nat × aO) := [(14, oLI 2 15), (15, oAT 16), (16, oLA 0 17), (17, oGe 0 14 20), (20, oLI 1 21), (21, oLA 0 22), (22, oGe 0 12 25), (25, oAT 26)]
theorem B26_1_ok : ∀ q ∈ B26_1, Ok M26 q.1 q.2 := List.forall_mem_cons.mpr ⟨k_26_14, List.forall_mem_cons.mpr ⟨k_26_15, List.forall_mem_cons.mpr ⟨k_26_16, List.forall_mem_cons.mpr ⟨k_26_17, List.forall_mem_cons.mpr ⟨k_26_20, List.forall_mem_cons.mpr ⟨k_26_21, List.forall_mem_cons.mpr ⟨k_26_22, List.forall_mem_cons.mpr ⟨k_26_25, fun _ h => absurd h List.not_mem_nil⟩⟩⟩⟩⟩⟩⟩⟩
def B26_2 : List (Nat × aO) := [(26, oLA 0 27), (27, oS gDu 28), (28, oGe 0 12 31), (31, oS (gKo (.int 1)) 32), (32, oS (gI2 f_iadd) 33), (33, oPI 0 12 36), (36, oLA 0 37), (37, oLI 1 38)]
theorem B26_2_ok : ∀ q ∈ B26_2, Ok M26 q.1 q.2 := List.forall_mem_cons.mpr ⟨k_26_26, List.forall_mem_cons.mpr ⟨k_26_27, List.forall_mem_cons.mpr ⟨k_26_28, List.forall_mem_cons.mpr ⟨k_26_31, List.forall_mem_cons.mpr ⟨k_26_32, List.forall_mem_cons.mpr ⟨k_26_33, List.forall_mem_cons.mpr ⟨k_26_36, List.forall_mem_cons.mpr ⟨k_26_37, fun _ h => absurd h List.not_mem_nil⟩⟩⟩⟩⟩⟩⟩⟩
def B26_3 : List (Nat × aO) := [(38, oPI 0 17 41), (41, oLA 0 42), (42, oLA 0 43), (43, oGe 0 16 46), (46, oPI 0 18 49), (49, oLA 0 50), (50, oS (gKo (.int 0)) 51), (51, oPI 0 16 54)]
theorem B26_3_ok : ∀ q ∈ B26_3, Ok M26 q.1 q.2 := List.forall_mem_cons.mpr ⟨k_26_38, List.forall_mem_cons.mpr ⟨k_26_41, List.forall_mem_cons.mpr ⟨k_26_42, List.forall_mem_cons.mpr ⟨k_26_43, List.forall_mem_cons.mpr ⟨k_26_46, List.forall_mem_cons.mpr ⟨k_26_49, List.forall_mem_cons.mpr ⟨k_26_50, List.forall_mem_cons.mpr ⟨k_26_51, fun _ h => absurd h List.not_mem_nil⟩⟩⟩⟩⟩⟩⟩⟩
def B26_4 : List (Nat × aO) := [(54, oLI 2 55), (55, oRI)]
theorem B26_4_ok : ∀ q ∈ B26_4, Ok M26 q.1 q.2 := List.forall_mem_cons.mpr ⟨k_26_54, List.forall_mem_cons.mpr ⟨k_26_55, fun _ h => absurd h List.not_mem_nil⟩⟩
def P26 : List (Nat × List (Nat × aO)) := [(13, B26_0), (25, B26_1), (37, B26_2), (51, B26_3), (55, B26_4)]
theorem P26_ok : ∀ b ∈ P26, ∀ q ∈ b.2, Ok M26 q.1 q.2 := List.forall_mem_cons.mpr ⟨B26_0_ok, List.forall_mem_cons.mpr ⟨B26_1_ok, List.forall_mem_cons.mpr ⟨B26_2_ok, List.forall_mem_cons.mpr ⟨B26_3_ok, List.forall_mem_cons.mpr ⟨B26_4_ok, fun _ h => absurd h List.not_mem_nil⟩⟩⟩⟩⟩
theorem k_27_0 : Ok M27 0 (oLA 0 1) := r_aload_n (j := 0) (by decide +kernel) rfl
theorem k_27_1 : Ok M27 1 (oGe 0 15 4) := r_get (idx := 97) (by decide +kernel) cd_0 15 (by decide) w_165 rfl
theorem k_27_4 : Ok M27 4 (oLI 1 5) := r_iload_n (j := 1) (by decide +kernel) rfl
theorem k_27_5 : Ok M27 5 (oCS 94 2) := r_callSN (idx := 82) (host := RX4) (by decide +kernel) (fun _ _ h => h.2.2.2.2.2.1) cs_94
theorem k_27_8 : Ok M27 8 (oS (gKo (.int 1)) 9) := r_iconst (n := 1) (by decide +kernel) (by decide +kernel)
theorem k_27_9 : Ok M27 9 (oB2 b_icmp_ne q_ne 54 12) := r_icmp_ne (off := 45) (by decide +kernel) (by decide +kernel)
theorem k_27_12 : Ok M27 12 (oLA 0 13) := r_aload_n (j := 0) (by decide +kernel) rfl
theorem k_27_13 : Ok M27 13 (oLA 0 14) := r_aload_n (j := 0) (by decide +kernel) rfl
theorem k_27_14 : Ok M27 14 (oGe 0 17 17) := r_get (idx := 39) (by decide +kernel) cd_0 17 (by decide) w_169 rfl
theorem k_27_17 : Ok M27 17 (oCV 0 1 1) := r_callV (idx := 126) (by decide +kernel) w_538 cv_1
theorem k_27_20 : Ok M27 20 (oB1 b_if_eq q_eq 54 23) := r_if_eq (off := 34) (by decide +kernel) (by decide +kernel)
theorem k_27_23 : Ok M27 23 (oLA 0 24) := r_aload_n (j := 0) (by decide +kernel) rfl
theorem k_27_24 : Ok M27 24 (oGe 0 13 27) := r_get (idx := 33) (by decide +kernel) cd_0 13 (by decide) w_159 rfl
theorem k_27_27 : Ok M27 27 (oLA 0 28) := r_aload_n (j := 0) (by decide +kernel) rfl
theorem k_27_28 : Ok M27 28 (oGe 0 17 31) := r_get (idx := 39) (by decide +kernel) cd_0 17 (by decide) w_169 rfl
theorem k_27_31 : Ok M27 31 (oAI 32) := r_iaload (by decide +kernel)
theorem k_27_32 : Ok M27 32 (oLI 1 33) := r_iload_n (j := 1) (by decide +kernel) rfl
theorem k_27_33 : Ok M27 33 (oB2 b_icmp_eq q_eq 54 36) := r_icmp_eq (off := 21) (by decide +kernel) (by decide +kernel)
theorem k_27_36 : Ok M27 36 (oLA 0 37) := r_aload_n (j := 0) (by decide +kernel) rfl
theorem k_27_37 : Ok M27 37 (oCV 0 11 0) := r_callV (idx := 130) (by decide +kernel) w_539 cv_11
theorem k_27_40 : Ok M27 40 (oLA 0 41) := r_aload_n (j := 0) (by decide +kernel) rfl
theorem k_27_41 : Ok M27 41 (oGe 0 18 44) := r_get (idx := 103) (by decide +kernel) cd_0 18 (by decide) w_170 rfl
theorem k_27_44 : Ok M27 44 (oS (gKo (.int (-1))) 45) := r_iconst (n := (-1)) (by decide +kernel) (by decide +kernel)
theorem k_27_45 : Ok M27 45 (oS (gI2 f_ixor) 46) := r_ixor (by decide +kernel)
theorem k_27_46 : Ok M27 46 (oS (gI2 f_iand) 47) := r_iand (by decide +kernel)
theorem k_27_47 : Ok M27 47 (oB1 b_if_eq q_eq 54 50) := r_if_eq (off := 7) (by decide +kernel) (by decide +kernel)
theorem k_27_50 : Ok M27 50 (oS (gKo (.int 1)) 51) := r_iconst (n := 1) (by decide +kernel) (by decide +kernel)
theorem k_27_51 : Ok M27 51 (oGo 55) := r_goto (off := 4) (by decide +kernel) (by decide +kernel)
theorem k_27_54 : Ok M27 54 (oS (gKo (.int 0)) 55) := r_iconst (n := 0) (by decide +kernel) (by decide +kernel)
theorem k_27_55 : Ok M27 55 (oRZ) := r_zreturn rfl (by decide +kernel)
def B27_0 : List (Nat × aO) := [(0, oLA 0 1), (1, oGe 0 15 4), (4, oLI 1 5), (5, oCS 94 2), (8, oS (gKo (.int 1)) 9), (9, oB2 b_icmp_ne q_ne 54 12), (12, oLA 0 13), (13, oLA 0 14)]
theorem B27_0_ok : ∀ q ∈ B27_0, Ok M27 q.1 q.2 := List.forall_mem_cons.mpr ⟨k_27_0, List.forall_mem_cons.mpr ⟨k_27_1, List.forall_mem_cons.mpr ⟨k_27_4, List.forall_mem_cons.mpr ⟨k_27_5, List.forall_mem_cons.mpr ⟨k_27_8, List.forall_mem_cons.mpr ⟨k_27_9, List.forall_mem_cons.mpr ⟨k_27_12, List.forall_mem_cons.mpr ⟨k_27_13, fun _ h => absurd h List.not_mem_nil⟩⟩⟩⟩⟩⟩⟩⟩
def B27_1 : List (Nat × aO) := [(14, oGe 0 17 17), (17, oCV 0 1 1), (20, oB1 b_if_eq q_eq 54 23), (23, oLA 0 24), (24, oGe 0 13 27), (27, oLA 0 28), (28, oGe 0 17 31), (31, oAI 32)]
theorem B27_1_ok : ∀ q ∈ B27_1, Ok M27 q.1 q.2 := List.forall_mem_cons.mpr ⟨k_27_14, List.forall_mem_cons.mpr ⟨k_27_17, List.forall_mem_cons.mpr ⟨k_27_20, List.forall_mem_cons.mpr ⟨k_27_23, List.forall_mem_cons.mpr ⟨k_27_24, List.forall_mem_cons.mpr ⟨k_27_27, List.forall_mem_cons.mpr ⟨k_27_28, List.forall_mem_cons.mpr ⟨k_27_31, fun _ h => absurd h List.not_mem_nil⟩⟩⟩⟩⟩⟩⟩⟩
def B27_2 : List (Nat × aO) := [(32, oLI 1 33), (33, oB2 b_icmp_eq q_eq 54 36), (36, oLA 0 37), (37, oCV 0 11 0), (40, oLA 0 41), (41, oGe 0 18 44), (44, oS (gKo (.int (-1))) 45), (45, oS (gI2 f_ixor) 46)]
theorem B27_2_ok : ∀ q ∈ B27_2, Ok M27 q.1 q.2 := List.forall_mem_cons.mpr ⟨k_27_32, List.forall_mem_cons.mpr ⟨k_27_33, List.forall_mem_cons.mpr ⟨k_27_36, List.forall_mem_cons.mpr ⟨k_27_37, List.forall_mem_cons.mpr ⟨k_27_40, List.forall_mem_cons.mpr ⟨k_27_41, List.forall_mem_cons.mpr ⟨k_27_44, List.forall_mem_cons.mpr ⟨k_27_45, fun _ h => absurd h List.not_mem_nil⟩⟩⟩⟩⟩⟩⟩⟩
def B27_3 : List (Nat × aO) := [(46, oS (gI2 f_iand) 47), (47, oB1 b_if_eq q_eq 54 50), (50, oS (gKo (.int 1)) 51), (51, oGo 55), (54, oS (gKo (.int 0)) 55), (55, oRZ)]
theorem B27_3_ok : ∀ q ∈ B27_3, Ok M27 q.1 q.2 := List.forall_mem_cons.mpr ⟨k_27_46, List.forall_mem_cons.mpr ⟨k_27_47, List.forall_mem_cons.mpr ⟨k_27_50, List.forall_mem_cons.mpr ⟨k_27_51, List.forall_mem_cons.mpr ⟨k_27_54, List.forall_mem_cons.mpr ⟨k_27_55, fun _ h => absurd h List.not_mem_nil⟩⟩⟩⟩⟩⟩
def P27 : List (Nat × List (Nat × aO)) := [(13, B27_0), (31, B27_1), (45, B27_2), (55, B27_3)]
theorem P27_ok : ∀ b ∈ P27, ∀ q ∈ b.2, Ok M27 q.1 q.2 := List.forall_mem_cons.mpr ⟨B27_0_ok, List.forall_mem_cons.mpr ⟨B27_1_ok, List.forall_mem_cons.mpr ⟨B27_2_ok, List.forall_mem_cons.mpr ⟨B27_3_ok, fun _ h => absurd h List.not_mem_nil⟩⟩⟩⟩
theorem k_28_0 : Ok M28 0 (oLA 0 1) := r_aload_n (j := 0) (by decide +kernel) rfl
theorem k_28_1 : Ok M28 1 (oGe 0 17 4) := r_get (idx := 39) (by decide +kernel) cd_0 17 (by decide) w_169 rfl
theorem k_28_4 : Ok M28 4 (oSI 2 3 5) := r_istore_n (j := 2) (by decide +kernel) rfl
theorem k_28_5 : Ok M28 5 (oLA 0 6) := r_aload_n (j := 0) (by decide +kernel) rfl
theorem k_28_6 : Ok M28 6 (oLI 2 7) := r_iload_n (j := 2) (by decide +kernel) rfl
theorem k_28_7 : Ok M28 7 (oCV 0 1 1) := r_callV (idx := 126) (by decide +kernel) w_538 cv_1
theorem k_28_10 : Ok M28 10 (oB1 b_if_ne q_ne 15 13) := r_if_ne (off := 5) (by decide +kernel) (by decide +kernel)
theorem k_28_13 : Ok M28 13 (oS (gKo (.int (-1))) 14) := r_iconst (n := (-1)) (by decide +kernel) (by decide +kernel)
theorem k_28_14 : Ok M28 14 (oRI) := r_ireturn rfl (by decide +kernel)
theorem k_28_15 : Ok M28 15 (oLA 0 16) := r_aload_n (j := 0) (by decide +kernel) rfl
theorem k_28_16 : Ok M28 16 (oGe 0 13 19) := r_get (idx := 33) (by decide +kernel) cd_0 13 (by decide) w_159 rfl
theorem k_28_19 : Ok M28 19 (oLI 2 20) := r_iload_n (j := 2) (by decide +kernel) rfl
theorem k_28_20 : Ok M28 20 (oS (gKo (.int (-1))) 21) := r_iconst (n := (-1)) (by decide +kernel) (by decide +kernel)
theorem k_28_21 : Ok M28 21 (oAT 22) := r_iastore (by decide +kernel)
theorem k_28_22 : Ok M28 22 (oLA 0 23) := r_aload_n (j := 0) (by decide +kernel) rfl
theorem k_28_23 : Ok M28 23 (oGe 0 14 26) := r_get (idx := 36) (by decide +kernel) cd_0 14 (by decide) w_161 rfl
theorem k_28_26 : Ok M28 26 (oLI 2 27) := r_iload_n (j := 2) (by decide +kernel) rfl
theorem k_28_27 : Ok M28 27 (oS (gKo (.int (-1))) 28) := r_iconst (n := (-1)) (by decide +kernel) (by decide +kernel)
theorem k_28_28 : Ok M28 28 (oAT 29) := r_iastore (by decide +kernel)
theorem k_28_29 : Ok M28 29 (oLA 0 30) := r_aload_n (j := 0) (by decide +kernel) rfl
theorem k_28_30 : Ok M28 30 (oS gDu 31) := r_dup (by decide +kernel)
theorem k_28_31 : Ok M28 31 (oGe 0 12 34) := r_get (idx := 49) (by decide +kernel) cd_0 12 (by decide) w_157 rfl
theorem k_28_34 : Ok M28 34 (oS (gKo (.int 1)) 35) := r_iconst (n := 1) (by decide +kernel) (by decide +kernel)
theorem k_28_35 : Ok M28 35 (oS (gI2 f_isub) 36) := r_isub (by decide +kernel)
theorem k_28_36 : Ok M28 36 (oPI 0 12 39) := r_putI (idx := 49) (by decide +kernel) cd_0 12 (by decide) w_157 rfl rfl (by decide +kernel)
theorem k_28_39 : Ok M28 39 (oLA 0 40) := r_aload_n (j := 0) (by decide +kernel) rfl
theorem k_28_40 : Ok M28 40 (oS (gKo (.int (-1))) 41) := r_iconst (n := (-1)) (by decide +kernel) (by decide +kernel)
theorem k_28_41 : Ok M28 41 (oPI 0 17 44) := r_putI (idx := 39) (by decide +kernel) cd_0 17 (by decide) w_169 rfl rfl (by decide +kernel)
theorem k_28_44 : Ok M28 44 (oLA 0 45) := r_aload_n (j := 0) (by decide +kernel) rfl
theorem k_28_45 : Ok M28 45 (oLA 0 46) := r_aload_n (j := 0) (by decide +kernel) rfl
theorem k_28_46 : Ok M28 46 (oGe 0 18 49) := r_get (idx := 103) (by decide +kernel) cd_0 18 (by decide) w_170 rfl
theorem k_28_49 : Ok M28 49 (oS (gKo (.int 1)) 50) := r_iconst (n := 1) (by decide +kernel) (by decide +kernel)
theorem k_28_50 : Ok M28 50 (oLI 2 51) := r_iload_n (j := 2) (by decide +kernel) rfl
theorem k_28_51 : Ok M28 51 (oS (gI2 f_ishl) 52) := r_ishl (by decide +kernel)
theorem k_28_52 : Ok M28 52 (oS (gI2 f_ior) 53) := r_ior (by decide +kernel)
theorem k_28_53 : Ok M28 53 (oPI 0 16 56) := r_putI (idx := 100) (by decide +kernel) cd_0 16 (by decide) w_168 rfl rfl (by decide +kernel)
theorem k_28_56 : Ok M28 56 (oLA 0 57) := r_aload_n (j := 0) (by decide +kernel) rfl
theorem k_28_57 : Ok M28 57 (oS gDu 58) := r_dup (by decide +kernel)
theorem k_28_58 : Ok M28 58 (oGe 0 15 61) := r_get (idx := 97) (by decide +kernel) cd_0 15 (by decide) w_165 rfl
theorem k_28_61 : Ok M28 61 (oS (gKo (.int 1)) 62) := r_iconst (n := 1) (by decide +kernel) (by decide +kernel)
theorem k_28_62 : Ok M28 62 (oLI 1 63) := r_iload_n (j := 1) (by decide +kernel) rfl
theorem k_28_63 : Ok M28 63 (oS (gI2 f_ishl) 64) := r_ishl (by decide +kernel)
theorem k_28_64 : Ok M28 64 (oS (gKo (.int (-1))) 65) := r_iconst (n := (-1)) (by decide +kernel) (by decide +kernel)
theorem k_28_65 : Ok M28 65 (oS (gI2 f_ixor) 66) := r_ixor (by decide +kernel)
theorem k_28_66 : Ok M28 66 (oS (gI2 f_iand) 67) := r_iand (by decide +kernel)
theorem k_28_67 : Ok M28 67 (oPI 0 15 70) := r_putI (idx := 97) (by decide +kernel) cd_0 15 (by decide) w_165 rfl rfl (by decide +kernel)
theorem k_28_70 : Ok M28 70 (oLI 2 71) := r_iload_n (j := 2) (by decide +kernel) rfl
theorem k_28_71 : Ok M28 71 (oRI) := r_ireturn rfl (by decide +kernel)
def B28_0 : List (Nat × aO) := [(0, oLA 0 1), (1, oGe 0 17 4), (4, oSI 2 3 5), (5, oLA 0 6), (6, oLI 2 7), (7, oCV 0 1 1), (10, oB1 b_if_ne q_ne 15 13), (13, oS (gKo (.int (-1))) 14)]
theorem B28_0_ok : ∀ q ∈ B28_0, Ok M28 q.1 q.2 := List.forall_mem_cons.mpr ⟨k_28_0, List.forall_mem_cons.mpr ⟨k_28_1, List.forall_mem_cons.mpr ⟨k_28_4, List.forall_mem_cons.mpr ⟨k_28_5, List.forall_mem_cons.mpr ⟨k_28_6, List.forall_mem_cons.mpr ⟨k_28_7, List.forall_mem_cons.mpr ⟨k_28_10, List.forall_mem_cons.mpr ⟨k_28_13, fun _ h => absurd h List.not_mem_nil⟩⟩⟩⟩⟩⟩⟩⟩
def B28_1 : List (Nat × aO) := [(14, oRI), (15, oLA 0 16), (16, oGe 0 13 19), (19, oLI 2 20), (20, oS (gKo (.int (-1))) 21), (21, oAT 22), (22, oLA 0 23), (23, oGe 0 14 26)]
theorem B28_1_ok : ∀ q ∈ B28_1, Ok M28 q.1 q.2 := List.forall_mem_cons.mpr ⟨k_28_14, List.forall_mem_cons.mpr ⟨k_28_15, List.forall_mem_cons.mpr ⟨k_28_16, List.forall_mem_cons.mpr ⟨k_28_19, List.forall_mem_cons.mpr ⟨k_28_20, List.forall_mem_cons.mpr ⟨k_28_21, List.forall_mem_cons.mpr ⟨k_28_22, List.forall_mem_cons.mpr ⟨k_28_23, fun _ h => absurd h List.not_mem_nil⟩⟩⟩⟩⟩⟩⟩⟩
def B28_2 : List (Nat × aO) := [(26, oLI 2 27), (27, oS (gKo (.int (-1))) 28), (28, oAT 29), (29, oLA 0 30), (30, oS gDu 31), (31, oGe 0 12 34), (34, oS (gKo (.int 1)) 35), (35, oS (gI2 f_isub) 36)]
theorem B28_2_ok : ∀ q ∈ B28_2, Ok M28 q.1 q.2 := List.forall_mem_cons.mpr ⟨k_28_26, List.forall_mem_cons.mpr ⟨k_28_27, List.forall_mem_cons.mpr ⟨k_28_28, List.forall_mem_cons.mpr ⟨k_28_29, List.forall_mem_cons.mpr ⟨k_28_30, List.forall_mem_cons.mpr ⟨k_28_31, List.forall_mem_cons.mpr ⟨k_28_34, List.forall_mem_cons.mpr ⟨k_28_35, fun _ h => absurd h List.not_mem_nil⟩⟩⟩⟩⟩⟩⟩⟩
def B28_3 : List (Nat × aO) := [(36, oPI 0 12 39), (39, oLA 0 40), (40, oS (gKo (.int (-1))) 41), (41, oPI 0 17 44), (44, oLA 0 45), (45, oLA 0 46), (46, oGe 0 18 49), (49, oS (gKo (.int 1)) 50)]
theorem B28_3_ok : ∀ q ∈ B28_3, Ok M28 q.1 q.2 := List.forall_mem_cons.mpr ⟨k_28_36, List.forall_mem_cons.mpr ⟨k_28_39, List.forall_mem_cons.mpr ⟨k_28_40, List.forall_mem_cons.mpr ⟨k_28_41, List.forall_mem_cons.mpr ⟨k_28_44, List.forall_mem_cons.mpr ⟨k_28_45, List.forall_mem_cons.mpr ⟨k_28_46, List.forall_mem_cons.mpr ⟨k_28_49, fun _ h => absurd h List.not_mem_nil⟩⟩⟩⟩⟩⟩⟩⟩
def B28_4 : List (Nat × aO) := [(50, oLI 2 51), (51, oS (gI2 f_ishl) 52), (52, oS (gI2 f_ior) 53), (53, oPI 0 16 56), (56, oLA 0 57), (57, oS gDu 58), (58, oGe 0 15 61), (61, oS (gKo (.int 1)) 62)]
theorem B28_4_ok : ∀ q ∈ B28_4, Ok M28 q.1 q.2 := List.forall_mem_cons.mpr ⟨k_28_50, List.forall_mem_cons.mpr ⟨k_28_51, List.forall_mem_cons.mpr ⟨k_28_52, List.forall_mem_cons.mpr ⟨k_28_53, List.forall_mem_cons.mpr ⟨k_28_56, List.forall_mem_cons.mpr ⟨k_28_57, List.forall_mem_cons.mpr ⟨k_28_58, List.forall_mem_cons.mpr ⟨k_28_61, fun _ h => absurd h List.not_mem_nil⟩⟩⟩⟩⟩⟩⟩⟩
def B28_5 : List (Nat × aO) := [(62, oLI 1 63), (63, oS (gI2 f_ishl) 64), (64, oS (gKo (.int (-1))) 65), (65, oS (gI2 f_ixor) 66), (66, oS (gI2 f_iand) 67), (67, oPI 0 15 70), (70, oLI 2 71), (71, oRI)]
theorem B28_5_ok : ∀ q ∈ B28_5, Ok M28 q.1 q.2 := List.forall_mem_cons.mpr ⟨k_28_62, List.forall_mem_cons.mpr ⟨k_28_63, List.forall_mem_cons.mpr ⟨k_28_64, List.forall_mem_cons.mpr ⟨k_28_65, List.forall_mem_cons.mpr ⟨k_28_66, List.forall_mem_cons.mpr ⟨k_28_67, List.forall_mem_cons.mpr ⟨k_28_70, List.forall_mem_cons.mpr ⟨k_28_71, fun _ h => absurd h List.not_mem_nil⟩⟩⟩⟩⟩⟩⟩⟩
def P28 : List (Nat × List (Nat × aO)) := [(13, B28_0), (23, B28_1), (35, B28_2), (49, B28_3), (61, B28_4), (71, B28_5)]
theorem P28_ok : ∀ b ∈ P28, ∀ q ∈ b.2, Ok M28 q.1 q.2 := List.forall_mem_cons.mpr ⟨B28_0_ok, List.forall_mem_cons.mpr ⟨B28_1_ok, List.forall_mem_cons.mpr ⟨B28_2_ok, List.forall_mem_cons.mpr ⟨B28_3_ok, List.forall_mem_cons.mpr ⟨B28_4_ok, List.forall_mem_cons.mpr ⟨B28_5_ok, fun _ h => absurd h List.not_mem_nil⟩⟩⟩⟩⟩⟩
theorem k_29_0 : Ok M29 0 (oLA 0 1) := r_aload_n (j := 0) (by decide +kernel) rfl
theorem k_29_1 : Ok M29 1 (oLI 1 2) := r_iload_n (j := 1) (by decide +kernel) rfl
theorem k_29_2 : Ok M29 2 (oCV 0 8 1) := r_callV (idx := 133) (by decide +kernel) w_631 cv_8
theorem k_29_5 : Ok M29 5 (oSI 2 8 6) := r_istore_n (j := 2) (by decide +kernel) rfl
theorem k_29_6 : Ok M29 6 (oLA 0 7) := r_aload_n (j := 0) (by decide +kernel) rfl
theorem k_29_7 : Ok M29 7 (oCV 0 11 0) := r_callV (idx := 130) (by decide +kernel) w_539 cv_11
theorem k_29_10 : Ok M29 10 (oSI 3 8 11) := r_istore_n (j := 3) (by decide +kernel) rfl
theorem k_29_11 : Ok M29 11 (oLI 3 12) := r_iload_n (j := 3) (by decide +kernel) rfl
theorem k_29_12 : Ok M29 12 (oLA 0 13) := r_aload_n (j := 0) (by decide +kernel) rfl
theorem k_29_13 : Ok M29 13 (oGe 0 16 16) := r_get (idx := 100) (by decide +kernel) cd_0 16 (by decide) w_168 rfl
theorem k_29_16 : Ok M29 16 (oS (gKo (.int (-1))) 17) := r_iconst (n := (-1)) (by decide +kernel) (by decide +kernel)
theorem k_29_17 : Ok M29 17 (oS (gI2 f_ixor) 18) := r_ixor (by decide +kernel)
theorem k_29_18 : Ok M29 18 (oS (gI2 f_iand) 19) := r_iand (by decide +kernel)
theorem k_29_19 : Ok M29 19 (oSI 4 8 21) := r_istore (by decide +kernel)
theorem k_29_21 : Ok M29 21 (oLA 0 22) := r_aload_n (j := 0) (by decide +kernel) rfl
theorem k_29_22 : Ok M29 22 (oGe 0 12 25) := r_get (idx := 49) (by decide +kernel) cd_0 12 (by decide) w_157 rfl
theorem k_29_25 : Ok M29 25 (oSI 5 8 27) := r_istore (by decide +kernel)
theorem k_29_27 : Ok M29 27 (oLI 5 29) := r_iload (by decide +kernel)
theorem k_29_29 : Ok M29 29 (oLA 0 30) := r_aload_n (j := 0) (by decide +kernel) rfl
theorem k_29_30 : Ok M29 30 (oCV 0 5 0) := r_callV (idx := 115) (by decide +kernel) w_258 cv_5
theorem k_29_33 : Ok M29 33 (oB2 b_icmp_ge q_ge 99 36) := r_icmp_ge (off := 66) (by decide +kernel) (by decide +kernel)
theorem k_29_36 : Ok M29 36 (oLA 0 37) := r_aload_n (j := 0) (by decide +kernel) rfl
theorem k_29_37 : Ok M29 37 (oLI 5 39) := r_iload (by decide +kernel)
theorem k_29_39 : Ok M29 39 (oCV 0 6 1) := r_callV (idx := 52) (by decide +kernel) w_453 cv_6
theorem k_29_42 : Ok M29 42 (oSI 6 8 44) := r_istore (by decide +kernel)
theorem k_29_44 : Ok M29 44 (oLA 0 45) := r_aload_n (j := 0) (by decide +kernel) rfl
theorem k_29_45 : Ok M29 45 (oLI 6 47) := r_iload (by decide +kernel)
theorem k_29_47 : Ok M29 47 (oLI 4 49) := r_iload (by decide +kernel)
theorem k_29_49 : Ok M29 49 (oCV 0 30 2) := r_callV (idx := 136) (by decide +kernel) w_632 cv_30
theorem k_29_52 : Ok M29 52 (oSI 7 8 54) := r_istore (by decide +kernel)
theorem k_29_54 : Ok M29 54 (oLA 0 55) := r_aload_n (j := 0) (by decide +kernel) rfl
theorem k_29_55 : Ok M29 55 (oLI 7 57) := r_iload (by decide +kernel)
theorem k_29_57 : Ok M29 57 (oCV 0 1 1) := r_callV (idx := 126) (by decide +kernel) w_538 cv_1
theorem k_29_60 : Ok M29 60 (oB1 b_if_ne q_ne 65 63) := r_if_ne (off := 5) (by decide +kernel) (by decide +kernel)
theorem k_29_63 : Ok M29 63 (oLI 2 64) := r_iload_n (j := 2) (by decide +kernel) rfl
theorem k_29_64 : Ok M29 64 (oRI) := r_ireturn rfl (by decide +kernel)
theorem k_29_65 : Ok M29 65 (oLI 6 67) := r_iload (by decide +kernel)
theorem k_29_67 : Ok M29 67 (oLI 1 68) := r_iload_n (j := 1) (by decide +kernel) rfl
theorem k_29_68 : Ok M29 68 (oB2 b_icmp_ne q_ne 81 71) := r_icmp_ne (off := 13) (by decide +kernel) (by decide +kernel)
theorem k_29_71 : Ok M29 71 (oLI 2 72) := r_iload_n (j := 2) (by decide +kernel) rfl
theorem k_29_72 : Ok M29 72 (oLA 0 73) := r_aload_n (j := 0) (by decide +kernel) rfl
theorem k_29_73 : Ok M29 73 (oLI 1 74) := r_iload_n (j := 1) (by decide +kernel) rfl
theorem k_29_74 : Ok M29 74 (oLI 7 76) := r_iload (by decide +kernel)
theorem k_29_76 : Ok M29 76 (oCV 0 3 2) := r_callV (idx := 56) (by decide +kernel) w_445 cv_3
theorem k_29_79 : Ok M29 79 (oS (gI2 f_iadd) 80) := r_iadd (by decide +kernel)
theorem k_29_80 : Ok M29 80 (oSI 2 8 81) := r_istore_n (j := 2) (by decide +kernel) rfl
theorem k_29_81 : Ok M29 81 (oLI 3 82) := r_iload_n (j := 3) (by decide +kernel) rfl
theorem k_29_82 : Ok M29 82 (oS (gKo (.int 1)) 83) := r_iconst (n := 1) (by decide +kernel) (by decide +kernel)
theorem k_29_83 : Ok M29 83 (oLI 7 85) := r_iload (by decide +kernel)
theorem k_29_85 : Ok M29 85 (oS (gI2 f_ishl) 86) := r_ishl (by decide +kernel)
theorem k_29_86 : Ok M29 86 (oS (gKo (.int (-1))) 87) := r_iconst (n := (-1)) (by decide +kernel) (by decide +kernel)
theorem k_29_87 : Ok M29 87 (oS (gI2 f_ixor) 88) := r_ixor (by decide +kernel)
theorem k_29_88 : Ok M29 88 (oS (gI2 f_iand) 89) := r_iand (by decide +kernel)
theorem k_29_89 : Ok M29 89 (oSI 3 8 90) := r_istore_n (j := 3) (by decide +kernel) rfl
theorem k_29_90 : Ok M29 90 (oLI 3 91) := r_iload_n (j := 3) (by decide +kernel) rfl
theorem k_29_91 : Ok M29 91 (oSI 4 8 93) := r_istore (by decide +kernel)
theorem k_29_93 : Ok M29 93 (oInc 5 1 8 96) := r_iinc (n := 1) (by decide +kernel) (by decide +kernel)
theorem k_29_96 : Ok M29 96 (oGo 27) := r_goto (off := (-69)) (by decide +kernel) (by decide +kernel)
theorem k_29_99 : Ok M29 99 (oLI 2 100) := r_iload_n (j := 2) (by decide +kernel) rfl
theorem k_29_100 : Ok M29 100 (oRI) := r_ireturn rfl (by decide +kernel)
def B29_0 : List (Nat × aO) := [(0, oLA 0 1), (1, oLI 1 2), (2, oCV 0 8 1), (5, oSI 2 8 6), (6, oLA 0 7), (7, oCV 0 11 0), (10, oSI 3 8 11), (11, oLI 3 12)]
theorem B29_0_ok : ∀ q ∈ B29_0, Ok M29 q.1 q.2 := List.forall_mem_cons.mpr ⟨k_29_0, List.forall_mem_cons.mpr ⟨k_29_1, List.forall_mem_cons.mpr ⟨k_29_2, List.forall_mem_cons.mpr ⟨k_29_5, List.forall_mem_cons.mpr ⟨k_29_6, List.forall_mem_cons.mpr ⟨k_29_7, List.forall_mem_cons.mpr ⟨k_29_10, List.forall_mem_cons.mpr ⟨k_29_11, fun _ h => absurd h List.not_mem_nil⟩⟩⟩⟩⟩⟩⟩⟩
def B29_1 : List (Nat × aO) := [(12, oLA 0 13), (13, oGe 0 16 16), (16, oS (gKo (.int (-1))) 17), (17, oS (gI2 f_ixor) 18), (18, oS (gI2 f_iand) 19), (19, oSI 4 8 21), (21, oLA 0 22), (22, oGe 0 12 25)]
theorem B29_1_ok : ∀ q ∈ B29_1, Ok M29 q.1 q.2 := List.forall_mem_cons.mpr ⟨k_29_12, List.forall_mem_cons.mpr ⟨k_29_13, List.forall_mem_cons.mpr ⟨k_29_16, List.forall_mem_cons.mpr ⟨k_29_17, List.forall_mem_cons.mpr ⟨k_29_18, List.forall_mem_cons.mpr ⟨k_29_19, List.forall_mem_cons.mpr ⟨k_29_21, List.forall_mem_cons.mpr ⟨k_29_22, fun _ h => absurd h List.not_mem_nil⟩⟩⟩⟩⟩⟩⟩⟩
def B29_2 : List (Nat × aO) := [(25, oSI 5 8 27), (27, oLI 5 29), (29, oLA 0 30), (30, oCV 0 5 0), (33, oB2 b_icmp_ge q_ge 99 36), (36, oLA 0 37), (37, oLI 5 39), (39, oCV 0 6 1)]
theorem B29_2_ok : ∀ q ∈ B29_2, Ok M29 q.1 q.2 := List.forall_mem_cons.mpr ⟨k_29_25, List.forall_mem_cons.mpr ⟨k_29_27, List.forall_mem_cons.mpr ⟨k_29_29, List.forall_mem_cons.mpr ⟨k_29_30, List.forall_mem_cons.mpr ⟨k_29_33, List.forall_mem_cons.mpr ⟨k_29_36, List.forall_mem_cons.mpr ⟨k_29_37, List.forall_mem_cons.mpr ⟨k_29_39, fun _ h => absurd h List.not_mem_nil⟩⟩⟩⟩⟩⟩⟩⟩
def B29_3 : List (Nat × aO) := [(42, oSI 6 8 44), (44, oLA 0 45), (45, oLI 6 47), (47, oLI 4 49), (49, oCV 0 30 2), (52, oSI 7 8 54), (54, oLA 0 55), (55, oLI 7 57)]
theorem B29_3_ok : ∀ q ∈ B29_3, Ok M29 q.1 q.2 := List.forall_mem_cons.mpr ⟨k_29_42, List.forall_mem_cons.mpr ⟨k_29_44, List.forall_mem_cons.mpr ⟨k_29_45, List.forall_mem_cons.mpr ⟨k_29_47, List.forall_mem_cons.mpr ⟨k_29_49, List.forall_mem_cons.mpr ⟨k_29_52, List.forall_mem_cons.mpr ⟨k_29_54, List.forall_mem_cons.mpr ⟨k_29_55, fun _ h => absurd h List.not_mem_nil⟩⟩⟩⟩⟩⟩⟩⟩
def B29_4 : List (Nat × aO) := [(57, oCV 0 1 1), (60, oB1 b_if_ne q_ne 65 63), (63, oLI 2 64), (64, oRI), (65, oLI 6 67), (67, oLI 1 68), (68, oB2 b_icmp_ne q_ne 81 71), (71, oLI 2 72)]
theorem B29_4_ok : ∀ q ∈ B29_4, Ok M29 q.1 q.2 := List.forall_mem_cons.mpr ⟨k_29_57, List.forall_mem_cons.mpr ⟨k_29_60, List.forall_mem_cons.mpr ⟨k_29_63, List.forall_mem_cons.mpr ⟨k_29_64, List.forall_mem_cons.mpr ⟨k_29_65, List.forall_mem_cons.mpr ⟨k_29_67, List.forall_mem_cons.mpr ⟨k_29_68, List.forall_mem_cons.mpr ⟨k_29_71, fun _ h => absurd h List.not_mem_nil⟩⟩⟩⟩⟩⟩⟩⟩
def B29_5 : List (Nat × aO) := [(72, oLA 0 73), (73, oLI 1 74), (74, oLI 7 76), (76, oCV 0 3 2), (79, oS (gI2 f_iadd) 80), (80, oSI 2 8 81), (81, oLI 3 82), (82, oS (gKo (.int 1)) 83)]
theorem B29_5_ok : ∀ q ∈ B29_5, Ok M29 q.1 q.2 := List.forall_mem_cons.mpr ⟨k_29_72, List.forall_mem_cons.mpr ⟨k_29_73, List.forall_mem_cons.mpr ⟨k_29_74, List.forall_mem_cons.mpr ⟨k_29_76, List.forall_mem_cons.mpr ⟨k_29_79, List.forall_mem_cons.mpr ⟨k_29_80, List.forall_mem_cons.mpr ⟨k_29_81, List.forall_mem_cons.mpr ⟨k_29_82, fun _ h => absurd h List.not_mem_nil⟩⟩⟩⟩⟩⟩⟩⟩
def B29_6 : List (Nat × aO) := [(83, oLI 7 85), (85, oS (gI2 f_ishl) 86), (86, oS (gKo (.int (-1))) 87), (87, oS (gI2 f_ixor) 88), (88, oS (gI2 f_iand) 89), (89, oSI 3 8 90), (90, oLI 3 91), (91, oSI 4 8 93)]
theorem B29_6_ok : ∀ q ∈ B29_6, Ok M29 q.1 q.2 := List.forall_mem_cons.mpr ⟨k_29_83, List.forall_mem_cons.mpr ⟨k_29_85, List.forall_mem_cons.mpr ⟨k_29_86, List.forall_mem_cons.mpr ⟨k_29_87, List.forall_mem_cons.mpr ⟨k_29_88, List.forall_mem_cons.mpr ⟨k_29_89, List.forall_mem_cons.mpr ⟨k_29_90, List.forall_mem_cons.mpr ⟨k_29_91, fun _ h => absurd h List.not_mem_nil⟩⟩⟩⟩⟩⟩⟩⟩
def B29_7 : List (Nat × aO) := [(93, oInc 5 1 8 96), (96, oGo 27), (99, oLI 2 100), (100, oRI)]
theorem B29_7_ok : ∀ q ∈ B29_7, Ok M29 q.1 q.2 := List.forall_mem_cons.mpr ⟨k_29_93, List.forall_mem_cons.mpr ⟨k_29_96, List.forall_mem_cons.mpr ⟨k_29_99, List.forall_mem_cons.mpr ⟨k_29_100, fun _ h => absurd h List.not_mem_nil⟩⟩⟩⟩
def P29 : List (Nat × List (Nat × aO)) := [(11, B29_0), (22, B29_1), (39, B29_2), (55, B29_3), (71, B29_4), (82, B29_5), (91, B29_6), (100, B29_7)]
theorem P29_ok : ∀ b ∈ P29, ∀ q ∈ b.2, Ok M29 q.1 q.2 := List.forall_mem_cons.mpr ⟨B29_0_ok, List.forall_mem_cons.mpr ⟨B29_1_ok, List.forall_mem_cons.mpr ⟨B29_2_ok, List.forall_mem_cons.mpr ⟨B29_3_ok, List.forall_mem_cons.mpr ⟨B29_4_ok, List.forall_mem_cons.mpr ⟨B29_5_ok, List.forall_mem_cons.mpr ⟨B29_6_ok, List.forall_mem_cons.mpr ⟨B29_7_ok, fun _ h => absurd h List.not_mem_nil⟩⟩⟩⟩⟩⟩⟩⟩
theorem k_30_0 : Ok M30 0 (oS (gKo (.int (-1))) 1) := r_iconst (n := (-1)) (by decide +kernel) (by decide +kernel)
theorem k_30_1 : Ok M30 1 (oSI 3 5 2) := r_istore_n (j := 3) (by decide +kernel) rfl
theorem k_30_2 : Ok M30 2 (oS (gKo (.int 0)) 3) := r_iconst (n := 0) (by decide +kernel) (by decide +kernel)
theorem k_30_3 : Ok M30 3 (oSI 4 5 5) := r_istore (by decide +kernel)
theorem k_30_5 : Ok M30 5 (oLI 4 7) := r_iload (by decide +kernel)
theorem k_30_7 : Ok M30 7 (oLA 0 8) := r_aload_n (j := 0) (by decide +kernel) rfl
theorem k_30_8 : Ok M30 8 (oGe 0 0 11) := r_get (idx := 43) (by decide +kernel) cd_0 0 (by decide) w_130 rfl
theorem k_30_11 : Ok M30 11 (oB2 b_icmp_ge q_ge 54 14) := r_icmp_ge (off := 43) (by decide +kernel) (by decide +kernel)
theorem k_30_14 : Ok M30 14 (oLI 2 15) := r_iload_n (j := 2) (by decide +kernel) rfl
theorem k_30_15 : Ok M30 15 (oLI 4 17) := r_iload (by decide +kernel)
theorem k_30_17 : Ok M30 17 (oCS 94 2) := r_callSN (idx := 82) (host := RX4) (by decide +kernel) (fun _ _ h => h.2.2.2.2.2.1) cs_94
theorem k_30_20 : Ok M30 20 (oS (gKo (.int 1)) 21) := r_iconst (n := 1) (by decide +kernel) (by decide +kernel)
theorem k_30_21 : Ok M30 21 (oB2 b_icmp_ne q_ne 48 24) := r_icmp_ne (off := 27) (by decide +kernel) (by decide +kernel)
theorem k_30_24 : Ok M30 24 (oLI 3 25) := r_iload_n (j := 3) (by decide +kernel) rfl
theorem k_30_25 : Ok M30 25 (oS (gKo (.int (-1))) 26) := r_iconst (n := (-1)) (by decide +kernel) (by decide +kernel)
theorem k_30_26 : Ok M30 26 (oB2 b_icmp_eq q_eq 45 29) := r_icmp_eq (off := 19) (by decide +kernel) (by decide +kernel)
theorem k_30_29 : Ok M30 29 (oLA 0 30) := r_aload_n (j := 0) (by decide +kernel) rfl
theorem k_30_30 : Ok M30 30 (oLI 1 31) := r_iload_n (j := 1) (by decide +kernel) rfl
theorem k_30_31 : Ok M30 31 (oLI 4 33) := r_iload (by decide +kernel)
theorem k_30_33 : Ok M30 33 (oCV 0 3 2) := r_callV (idx := 56) (by decide +kernel) w_445 cv_3
theorem k_30_36 : Ok M30 36 (oLA 0 37) := r_aload_n (j := 0) (by decide +kernel) rfl
theorem k_30_37 : Ok M30 37 (oLI 1 38) := r_iload_n (j := 1) (by decide +kernel) rfl
theorem k_30_38 : Ok M30 38 (oLI 3 39) := r_iload_n (j := 3) (by decide +kernel) rfl
theorem k_30_39 : Ok M30 39 (oCV 0 3 2) := r_callV (idx := 56) (by decide +kernel) w_445 cv_3
theorem k_30_42 : Ok M30 42 (oB2 b_icmp_le q_le 48 45) := r_icmp_le (off := 6) (by decide +kernel) (by decide +kernel)
theorem k_30_45 : Ok M30 45 (oLI 4 47) := r_iload (by decide +kernel)
theorem k_30_47 : Ok M30 47 (oSI 3 5 48) := r_istore_n (j := 3) (by decide +kernel) rfl
theorem k_30_48 : Ok M30 48 (oInc 4 1 5 51) := r_iinc (n := 1) (by decide +kernel) (by decide +kernel)
theorem k_30_51 : Ok M30 51 (oGo 5) := r_goto (off := (-46)) (by decide +kernel) (by decide +kernel)
theorem k_30_54 : Ok M30 54 (oLI 3 55) := r_iload_n (j := 3) (by decide +kernel) rfl
theorem k_30_55 : Ok M30 55 (oRI) := r_ireturn rfl (by decide +kernel)
def B30_0 : List (Nat × aO) := [(0, oS (gKo (.int (-1))) 1), (1, oSI 3 5 2), (2, oS (gKo (.int 0)) 3), (3, oSI 4 5 5), (5, oLI 4 7), (7, oLA 0 8), (8, oGe 0 0 11), (11, oB2 b_icmp_ge q_ge 54 14)]
theorem B30_0_ok : ∀ q ∈ B30_0, Ok M30 q.1 q.2 := List.forall_mem_cons.mpr ⟨k_30_0, List.forall_mem_cons.mpr ⟨k_30_1, List.forall_mem_cons.mpr ⟨k_30_2, List.forall_mem_cons.mpr ⟨k_30_3, List.forall_mem_cons.mpr ⟨k_30_5, List.forall_mem_cons.mpr ⟨k_30_7, List.forall_mem_cons.mpr ⟨k_30_8, List.forall_mem_cons.mpr ⟨k_30_11, fun _ h => absurd h List.not_mem_nil⟩⟩⟩⟩⟩⟩⟩⟩
def B30_1 : List (Nat × aO) := [(14, oLI 2 15), (15, oLI 4 17), (17, oCS 94 2), (20, oS (gKo (.int 1)) 21), (21, oB2 b_icmp_ne q_ne 48 24), (24, oLI 3 25), (25, oS (gKo (.int (-1))) 26), (26, oB2 b_icmp_eq q_eq 45 29)]
theorem B30_1_ok : ∀ q ∈ B30_1, Ok M30 q.1 q.2 := List.forall_mem_cons.mpr ⟨k_30_14, List.forall_mem_cons.mpr ⟨k_30_15, List.forall_mem_cons.mpr ⟨k_30_17, List.forall_mem_cons.mpr ⟨k_30_20, List.forall_mem_cons.mpr ⟨k_30_21, List.forall_mem_cons.mpr ⟨k_30_24, List.forall_mem_cons.mpr ⟨k_30_25, List.forall_mem_cons.mpr ⟨k_30_26, fun _ h => absurd h List.not_mem_nil⟩⟩⟩⟩⟩⟩⟩⟩
def B30_2 : List (Nat × aO) := [(29, oLA 0 30), (30, oLI 1 31), (31, oLI 4 33), (33, oCV 0 3 2), (36, oLA 0 37), (37, oLI 1 38), (38, oLI 3 39), (39, oCV 0 3 2)]
theorem B30_2_ok : ∀ q ∈ B30_2, Ok M30 q.1 q.2 := List.forall_mem_cons.mpr ⟨k_30_29, List.forall_mem_cons.mpr ⟨k_30_30, List.forall_mem_cons.mpr ⟨k_30_31, List.forall_mem_cons.mpr ⟨k_30_33, List.forall_mem_cons.mpr ⟨k_30_36, List.forall_mem_cons.mpr ⟨k_30_37, List.forall_mem_cons.mpr ⟨k_30_38, List.forall_mem_cons.mpr ⟨k_30_39, fun _ h => absurd h List.not_mem_nil⟩⟩⟩⟩⟩⟩⟩⟩
def B30_3 : List (Nat × aO) := [(42, oB2 b_icmp_le q_le 48 45), (45, oLI 4 47), (47, oSI 3 5 48), (48, oInc 4 1 5 51), (51, oGo 5), (54, oLI 3 55), (55, oRI)]
theorem B30_3_ok : ∀ q ∈ B30_3, Ok M30 q.1 q.2 := List.forall_mem_cons.mpr ⟨k_30_42, List.forall_mem_cons.mpr ⟨k_30_45, List.forall_mem_cons.mpr ⟨k_30_47, List.forall_mem_cons.mpr ⟨k_30_48, List.forall_mem_cons.mpr ⟨k_30_51, List.forall_mem_cons.mpr ⟨k_30_54, List.forall_mem_cons.mpr ⟨k_30_55, fun _ h => absurd h List.not_mem_nil⟩⟩⟩⟩⟩⟩⟩
def P30 : List (Nat × List (Nat × aO)) := [(11, B30_0), (26, B30_1), (39, B30_2), (55, B30_3)]
theorem P30_ok : ∀ b ∈ P30, ∀ q ∈ b.2, Ok M30 q.1 q.2 := List.forall_mem_cons.mpr ⟨B30_0_ok, List.forall_mem_cons.mpr ⟨B30_1_ok, List.forall_mem_cons.mpr ⟨B30_2_ok, List.forall_mem_cons.mpr ⟨B30_3_ok, fun _ h => absurd h List.not_mem_nil⟩⟩⟩⟩
theorem k_31_0 : Ok M31 0 (oLA 0 1) := r_aload_n (j := 0) (by decide +kernel) rfl
theorem k_31_1 : Ok M31 1 (oLA 1 2) := r_aload_n (j := 1) (by decide +kernel) rfl
theorem k_31_2 : Ok M31 2 (oGe 0 0 5) := r_get (idx := 43) (by decide +kernel) cd_0 0 (by decide) w_130 rfl
theorem k_31_5 : Ok M31 5 (oPI 0 0 8) := r_putI (idx := 43) (by decide +kernel) cd_0 0 (by decide) w_130 rfl rfl (by decide +kernel)
theorem k_31_8 : Ok M31 8 (oLA 0 9) := r_aload_n (j := 0) (by decide +kernel) rfl
theorem k_31_9 : Ok M31 9 (oLA 1 10) := r_aload_n (j := 1) (by decide +kernel) rfl
theorem k_31_10 : Ok M31 10 (oGe 0 2 13) := r_get (idx := 46) (by decide +kernel) cd_0 2 (by decide) w_136 rfl
theorem k_31_13 : Ok M31 13 (oPI 0 2 16) := r_putI (idx := 46) (by decide +kernel) cd_0 2 (by decide) w_136 rfl rfl (by decide +kernel)
theorem k_31_16 : Ok M31 16 (oLA 0 17) := r_aload_n (j := 0) (by decide +kernel) rfl
theorem k_31_17 : Ok M31 17 (oLA 1 18) := r_aload_n (j := 1) (by decide +kernel) rfl
theorem k_31_18 : Ok M31 18 (oGe 0 5 21) := r_get (idx := 60) (by decide +kernel) cd_0 5 (by decide) w_144 rfl
theorem k_31_21 : Ok M31 21 (oPI 0 5 24) := r_putI (idx := 60) (by decide +kernel) cd_0 5 (by decide) w_144 rfl rfl (by decide +kernel)
theorem k_31_24 : Ok M31 24 (oLA 0 25) := r_aload_n (j := 0) (by decide +kernel) rfl
theorem k_31_25 : Ok M31 25 (oLA 1 26) := r_aload_n (j := 1) (by decide +kernel) rfl
theorem k_31_26 : Ok M31 26 (oGe 0 6 29) := r_get (idx := 63) (by decide +kernel) cd_0 6 (by decide) w_147 rfl
theorem k_31_29 : Ok M31 29 (oPI 0 6 32) := r_putI (idx := 63) (by decide +kernel) cd_0 6 (by decide) w_147 rfl rfl (by decide +kernel)
theorem k_31_32 : Ok M31 32 (oLA 0 33) := r_aload_n (j := 0) (by decide +kernel) rfl
theorem k_31_33 : Ok M31 33 (oLA 1 34) := r_aload_n (j := 1) (by decide +kernel) rfl
theorem k_31_34 : Ok M31 34 (oGe 0 7 37) := r_get (idx := 88) (by decide +kernel) cd_0 7 (by decide) w_149 rfl
theorem k_31_37 : Ok M31 37 (oPI 0 7 40) := r_putI (idx := 88) (by decide +kernel) cd_0 7 (by decide) w_149 rfl rfl (by decide +kernel)
theorem k_31_40 : Ok M31 40 (oLA 0 41) := r_aload_n (j := 0) (by decide +kernel) rfl
theorem k_31_41 : Ok M31 41 (oLA 1 42) := r_aload_n (j := 1) (by decide +kernel) rfl
theorem k_31_42 : Ok M31 42 (oGe 0 12 45) := r_get (idx := 49) (by decide +kernel) cd_0 12 (by decide) w_157 rfl
theorem k_31_45 : Ok M31 45 (oPI 0 12 48) := r_putI (idx := 49) (by decide +kernel) cd_0 12 (by decide) w_157 rfl rfl (by decide +kernel)
theorem k_31_48 : Ok M31 48 (oLA 0 49) := r_aload_n (j := 0) (by decide +kernel) rfl
theorem k_31_49 : Ok M31 49 (oLA 1 50) := r_aload_n (j := 1) (by decide +kernel) rfl
theorem k_31_50 : Ok M31 50 (oGe 0 15 53) := r_get (idx := 97) (by decide +kernel) cd_0 15 (by decide) w_165 rfl
theorem k_31_53 : Ok M31 53 (oPI 0 15 56) := r_putI (idx := 97) (by decide +kernel) cd_0 15 (by decide) w_165 rfl rfl (by decide +kernel)
theorem k_31_56 : Ok M31 56 (oLA 0 57) := r_aload_n (j := 0) (by decide +kernel) rfl
theorem k_31_57 : Ok M31 57 (oLA 1 58) := r_aload_n (j := 1) (by decide +kernel) rfl
theorem k_31_58 : Ok M31 58 (oGe 0 16 61) := r_get (idx := 100) (by decide +kernel) cd_0 16 (by decide) w_168 rfl
theorem k_31_61 : Ok M31 61 (oPI 0 16 64) := r_putI (idx := 100) (by decide +kernel) cd_0 16 (by decide) w_168 rfl rfl (by decide +kernel)
theorem k_31_64 : Ok M31 64 (oLA 0 65) := r_aload_n (j := 0) (by decide +kernel) rfl
theorem k_31_65 : Ok M31 65 (oLA 1 66) := r_aload_n (j := 1) (by decide +kernel) rfl
theorem k_31_66 : Ok M31 66 (oGe 0 17 69) := r_get (idx := 39) (by decide +kernel) cd_0 17 (by decide) w_169 rfl
theorem k_31_69 : Ok M31 69 (oPI 0 17 72) := r_putI (idx := 39) (by decide +kernel) cd_0 17 (by decide) w_169 rfl rfl (by decide +kernel)
theorem k_31_72 : Ok M31 72 (oLA 0 73) := r_aload_n (j := 0) (by decide +kernel) rfl
theorem k_31_73 : Ok M31 73 (oLA 1 74) := r_aload_n (j := 1) (by decide +kernel) rfl
theorem k_31_74 : Ok M31 74 (oGe 0 18 77) := r_get (idx := 103) (by decide +kernel) cd_0 18 (by decide) w_170 rfl
theorem k_31_77 : Ok M31 77 (oPI 0 18 80) := r_putI (idx := 103) (by decide +kernel) cd_0 18 (by decide) w_170 rfl rfl (by decide +kernel)
theorem k_31_80 : Ok M31 80 (oLA 1 81) := r_aload_n (j := 1) (by decide +kernel) rfl
theorem k_31_81 : Ok M31 81 (oGe 0 1 84) := r_get (idx := 9) (by decide +kernel) cd_0 1 (by decide) w_134 rfl
theorem k_31_84 : Ok M31 84 (oS (gKo (.int 0)) 85) := r_iconst (n := 0) (by decide +kernel) (by decide +kernel)
theorem k_31_85 : Ok M31 85 (oLA 0 86) := r_aload_n (j := 0) (by decide +kernel) rfl
theorem k_31_86 : Ok M31 86 (oGe 0 1 89) := r_get (idx := 9) (by decide +kernel) cd_0 1 (by decide) w_134 rfl
theorem k_31_89 : Ok M31 89 (oS (gKo (.int 0)) 90) := r_iconst (n := 0) (by decide +kernel) (by decide +kernel)
theorem k_31_90 : Ok M31 90 (oS (gKo (.int 6)) 92) := r_bipush (n := 6) (by decide +kernel) (by decide +kernel)
theorem k_31_92 : Ok M31 92 (oCp 95) := r_copy (idx := 139) (by decide +kernel) w_413 w_415 w_414 w_77
theorem k_31_95 : Ok M31 95 (oLA 1 96) := r_aload_n (j := 1) (by decide +kernel) rfl
theorem k_31_96 : Ok M31 96 (oGe 0 13 99) := r_get (idx := 33) (by decide +kernel) cd_0 13 (by decide) w_159 rfl
theorem k_31_99 : Ok M31 99 (oS (gKo (.int 0)) 100) := r_iconst (n := 0) (by decide +kernel) (by decide +kernel)
theorem k_31_100 : Ok M31 100 (oLA 0 101) := r_aload_n (j := 0) (by decide +kernel) rfl
theorem k_31_101 : Ok M31 101 (oGe 0 13 104) := r_get (idx := 33) (by decide +kernel) cd_0 13 (by decide) w_159 rfl
theorem k_31_104 : Ok M31 104 (oS (gKo (.int 0)) 105) := r_iconst (n := 0) (by decide +kernel) (by decide +kernel)
theorem k_31_105 : Ok M31 105 (oS (gKo (.int 6)) 107) := r_bipush (n := 6) (by decide +kernel) (by decide +kernel)
theorem k_31_107 : Ok M31 107 (oCp 110) := r_copy (idx := 139) (by decide +kernel) w_413 w_415 w_414 w_77
theorem k_31_110 : Ok M31 110 (oLA 1 111) := r_aload_n (j := 1) (by decide +kernel) rfl
theorem k_31_111 : Ok M31 111 (oGe 0 14 114) := r_get (idx := 36) (by decide +kernel) cd_0 14 (by decide) w_161 rfl
theorem k_31_114 : Ok M31 114 (oS (gKo (.int 0)) 115) := r_iconst (n := 0) (by decide +kernel) (by decide +kernel)
theorem k_31_115 : Ok M31 115 (oLA 0 116) := r_aload_n (j := 0) (by decide +kernel) rfl
theorem k_31_116 : Ok M31 116 (oGe 0 14 119) := r_get (idx := 36) (by decide +kernel) cd_0 14 (by decide) w_161 rfl
theorem k_31_119 : Ok M31 119 (oS (gKo (.int 0)) 120) := r_iconst (n := 0) (by decide +kernel) (by decide +kernel)
theorem k_31_120 : Ok M31 120 (oS (gKo (.int 6)) 122) := r_bipush (n := 6) (by decide +kernel) (by decide +kernel)
theorem k_31_122 : Ok M31 122 (oCp 125) := r_copy (idx := 139) (by decide +kernel) w_413 w_415 w_414 w_77
theorem k_31_125 : Ok M31 125 (oLA 1 126) := r_aload_n (j := 1) (by decide +kernel) rfl
theorem k_31_126 : Ok M31 126 (oGe 0 8 129) := r_get (idx := 21) (by decide +kernel) cd_0 8 (by decide) w_150 rfl
theorem k_31_129 : Ok M31 129 (oS (gKo (.int 0)) 130) := r_iconst (n := 0) (by decide +kernel) (by decide +kernel)
theorem k_31_130 : Ok M31 130 (oLA 0 131) := r_aload_n (j := 0) (by decide +kernel) rfl
theorem k_31_131 : Ok M31 131 (oGe 0 8 134) := r_get (idx := 21) (by decide +kernel) cd_0 8 (by decide) w_150 rfl
theorem k_31_134 : Ok M31 134 (oS (gKo (.int 0)) 135) := r_iconst (n := 0) (by decide +kernel) (by decide +kernel)
theorem k_31_135 : Ok M31 135 (oS (gKo (.int 6)) 137) := r_bipush (n := 6) (by decide +kernel) (by decide +kernel)
theorem k_31_137 : Ok M31 137 (oCp 140) := r_copy (idx := 139) (by decide +kernel) w_413 w_415 w_414 w_77
theorem k_31_140 : Ok M31 140 (oLA 1 141) := r_aload_n (j := 1) (by decide +kernel) rfl
theorem k_31_141 : Ok M31 141 (oGe 0 9 144) := r_get (idx := 24) (by decide +kernel) cd_0 9 (by decide) w_151 rfl
theorem k_31_144 : Ok M31 144 (oS (gKo (.int 0)) 145) := r_iconst (n := 0) (by decide +kernel) (by decide +kernel)
theorem k_31_145 : Ok M31 145 (oLA 0 146) := r_aload_n (j := 0) (by decide +kernel) rfl
theorem k_31_146 : Ok M31 146 (oGe 0 9 149) := r_get (idx := 24) (by decide +kernel) cd_0 9 (by decide) w_151 rfl
theorem k_31_149 : Ok M31 149 (oS (gKo (.int 0)) 150) := r_iconst (n := 0) (by decide +kernel) (by decide +kernel)
theorem k_31_150 : Ok M31 150 (oS (gKo (.int 6)) 152) := r_bipush (n := 6) (by decide +kernel) (by decide +kernel)
theorem k_31_152 : Ok M31 152 (oCp 155) := r_copy (idx := 139) (by decide +kernel) w_413 w_415 w_414 w_77
theorem k_31_155 : Ok M31 155 (oLA 1 156) := r_aload_n (j := 1) (by decide +kernel) rfl
theorem k_31_156 : Ok M31 156 (oGe 0 3 159) := r_get (idx := 15) (by decide +kernel) cd_0 3 (by decide) w_140 rfl
theorem k_31_159 : Ok M31 159 (oS (gKo (.int 0)) 160) := r_iconst (n := 0) (by decide +kernel) (by decide +kernel)
theorem k_31_160 : Ok M31 160 (oLA 0 161) := r_aload_n (j := 0) (by decide +kernel) rfl
theorem k_31_161 : Ok M31 161 (oGe 0 3 164) := r_get (idx := 15) (by decide +kernel) cd_0 3 (by decide) w_140 rfl
theorem k_31_164 : Ok M31 164 (oS (gKo (.int 0)) 165) := r_iconst (n := 0) (by decide +kernel) (by decide +kernel)
theorem k_31_165 : Ok M31 165 (oS (gKo (.int 4)) 166) := r_iconst (n := 4) (by decide +kernel) (by decide +kernel)
theorem k_31_166 : Ok M31 166 (oCp 169) := r_copy (idx := 139) (by decide +kernel) w_413 w_415 w_414 w_77
theorem k_31_169 : Ok M31 169 (oLA 1 170) := r_aload_n (j := 1) (by decide +kernel) rfl
theorem k_31_170 : Ok M31 170 (oGe 0 10 173) := r_get (idx := 27) (by decide +kernel) cd_0 10 (by decide) w_153 rfl
theorem k_31_173 : Ok M31 173 (oS (gKo (.int 0)) 174) := r_iconst (n := 0) (by decide +kernel) (by decide +kernel)
theorem k_31_174 : Ok M31 174 (oLA 0 175) := r_aload_n (j := 0) (by decide +kernel) rfl
theorem k_31_175 : Ok M31 175 (oGe 0 10 178) := r_get (idx := 27) (by decide +kernel) cd_0 10 (by decide) w_153 rfl
theorem k_31_178 : Ok M31 178 (oS (gKo (.int 0)) 179) := r_iconst (n := 0) (by decide +kernel) (by decide +kernel)
theorem k_31_179 : Ok M31 179 (oS (gKo (.int 4)) 180) := r_iconst (n := 4) (by decide +kernel) (by decide +kernel)
theorem k_31_180 : Ok M31 180 (oCp 183) := r_copy (idx := 139) (by decide +kernel) w_413 w_415 w_414 w_77
theorem k_31_183 : Ok M31 183 (oLA 1 184) := r_aload_n (j := 1) (by decide +kernel) rfl
theorem k_31_184 : Ok M31 184 (oGe 0 11 187) := r_get (idx := 30) (by decide +kernel) cd_0 11 (by decide) w_155 rfl
theorem k_31_187 : Ok M31 187 (oS (gKo (.int 0)) 188) := r_iconst (n := 0) (by decide +kernel) (by decide +kernel)
theorem k_31_188 : Ok M31 188 (oLA 0 189) := r_aload_n (j := 0) (by decide +kernel) rfl
theorem k_31_189 : Ok M31 189 (oGe 0 11 192) := r_get (idx := 30) (by decide +kernel) cd_0 11 (by decide) w_155 rfl
theorem k_31_192 : Ok M31 192 (oS (gKo (.int 0)) 193) := r_iconst (n := 0) (by decide +kernel) (by decide +kernel)
theorem k_31_193 : Ok M31 193 (oS (gKo (.int 4)) 194) := r_iconst (n := 4) (by decide +kernel) (by decide +kernel)
theorem k_31_194 : Ok M31 194 (oCp 197) := r_copy (idx := 139) (by decide +kernel) w_413 w_415 w_414 w_77
theorem k_31_197 : Ok M31 197 (oLA 1 198) := r_aload_n (j := 1) (by decide +kernel) rfl
theorem k_31_198 : Ok M31 198 (oGe 0 4 201) := r_get (idx := 18) (by decide +kernel) cd_0 4 (by decide) w_143 rfl
theorem k_31_201 : Ok M31 201 (oS (gKo (.int 0)) 202) := r_iconst (n := 0) (by decide +kernel) (by decide +kernel)
theorem k_31_202 : Ok M31 202 (oLA 0 203) := r_aload_n (j := 0) (by decide +kernel) rfl
theorem k_31_203 : Ok M31 203 (oGe 0 4 206) := r_get (idx := 18) (by decide +kernel) cd_0 4 (by decide) w_143 rfl
theorem k_31_206 : Ok M31 206 (oS (gKo (.int 0)) 207) := r_iconst (n := 0) (by decide +kernel) (by decide +kernel)
theorem k_31_207 : Ok M31 207 (oS (gKo (.int 24)) 209) := r_bipush (n := 24) (by decide +kernel) (by decide +kernel)
theorem k_31_209 : Ok M31 209 (oCp 212) := r_copy (idx := 139) (by decide +kernel) w_413 w_415 w_414 w_77
theorem k_31_212 : Ok M31 212 (oRV) := r_return rfl (by decide +kernel)
def B31_0 : List (Nat × aO) := [(0, oLA 0 1), (1, oLA 1 2), (2, oGe 0 0 5), (5, oPI 0 0 8), (8, oLA 0 9), (9, oLA 1 10), (10, oGe 0 2 13), (13, oPI 0 2 16)]
theorem B31_0_ok : ∀ q ∈ B31_0, Ok M31 q.1 q.2 := List.forall_mem_cons.mpr ⟨k_31_0, List.forall_mem_cons.mpr ⟨k_31_1, List.forall_mem_cons.mpr ⟨k_31_2, List.forall_mem_cons.mpr ⟨k_31_5, List.forall_mem_cons.mpr ⟨k_31_8, List.forall_mem_cons.mpr ⟨k_31_9, List.forall_mem_cons.mpr ⟨k_31_10, List.forall_mem_cons.mpr ⟨k_31_13, fun _ h => absurd h List.not_mem_nil⟩⟩⟩⟩⟩⟩⟩⟩
def B31_1 : List (Nat × aO) := [(16, oLA 0 17), (17, oLA 1 18), (18, oGe 0 5 21), (21, oPI 0 5 24), (24, oLA 0 25), (25, oLA 1 26), (26, oGe 0 6 29), (29, oPI 0 6 32)]
theorem B31_1_ok : ∀ q ∈ B31_1, Ok M31 q.1 q.2 := List.forall_mem_cons.mpr ⟨k_31_16, List.forall_mem_cons.mpr ⟨k_31_17, List.forall_mem_cons.mpr ⟨k_31_18, List.forall_mem_cons.mpr ⟨k_31_21, List.forall_mem_cons.mpr ⟨k_31_24, List.forall_mem_cons.mpr ⟨k_31_25, List.forall_mem_cons.mpr ⟨k_31_26, List.forall_mem_cons.mpr ⟨k_31_29, fun _ h => absurd h List.not_mem_nil⟩⟩⟩⟩⟩⟩⟩⟩
def B31_2 : List (Nat × aO) := [(32, oLA 0 33), (33, oLA 1 34), (34, oGe 0 7 37), (37, oPI 0 7 40), (40, oLA 0 41), (41, oLA 1 42), (42, oGe 0 12 45), (45, oPI 0 12 48)]
theorem B31_2_ok : ∀ q ∈ B31_2, Ok M31 q.1 q.2 := List.forall_mem_cons.mpr ⟨k_31_32, List.forall_mem_cons.mpr ⟨k_31_33, List.forall_mem_cons.mpr ⟨k_31_34, List.forall_mem_cons.mpr ⟨k_31_37, List.forall_mem_cons.mpr ⟨k_31_40, List.forall_mem_cons.mpr ⟨k_31_41, List.forall_mem_cons.mpr ⟨k_31_42, List.forall_mem_cons.mpr ⟨k_31_45, fun _ h => absurd h List.not_mem_nil⟩⟩⟩⟩⟩⟩⟩⟩
def B31_3 : List (Nat × aO) := [(48, oLA 0 49), (49, oLA 1 50), (50, oGe 0 15 53), (53, oPI 0 15 56), (56, oLA 0 57), (57, oLA 1 58), (58, oGe 0 16 61), (61, oPI 0 16 64)]
theorem B31_3_ok : ∀ q ∈ B31_3, Ok M31 q.1 q.2 := List.forall_mem_cons.mpr ⟨k_31_48, List.forall_mem_cons.mpr ⟨k_31_49, List.forall_mem_cons.mpr ⟨k_31_50, List.forall_mem_cons.mpr ⟨k_31_53, List.forall_mem_cons.mpr ⟨k_31_56, List.forall_mem_cons.mpr ⟨k_31_57, List.forall_mem_cons.mpr ⟨k_31_58, List.forall_mem_cons.mpr ⟨k_31_61, fun _ h => absurd h List.not_mem_nil⟩⟩⟩⟩⟩⟩⟩⟩
def B31_4 : List (Nat × aO) := [(64, oLA 0 65), (65, oLA 1 66), (66, oGe 0 17 69), (69, oPI 0 17 72), (72, oLA 0 73), (73, oLA 1 74), (74, oGe 0 18 77), (77, oPI 0 18 80)]
theorem B31_4_ok : ∀ q ∈ B31_4, Ok M31 q.1 q.2 := List.forall_mem_cons.mpr ⟨k_31_64, List.forall_mem_cons.mpr ⟨k_31_65, List.forall_mem_cons.mpr ⟨k_31_66, List.forall_mem_cons.mpr ⟨k_31_69, List.forall_mem_cons.mpr ⟨k_31_72, List.forall_mem_cons.mpr ⟨k_31_73, List.forall_mem_cons.mpr ⟨k_31_74, List.forall_mem_cons.mpr ⟨k_31_77, fun _ h => absurd h List.not_mem_nil⟩⟩⟩⟩⟩⟩⟩⟩
def B31_5 : List (Nat × aO) := [(80, oLA 1 81), (81, oGe 0 1 84), (84, oS (gKo (.int 0)) 85), (85, oLA 0 86), (86, oGe 0 1 89), (89, oS (gKo (.int 0)) 90), (90, oS (gKo (.int 6)) 92), (92, oCp 95)]
theorem B31_5_ok : ∀ q ∈ B31_5, Ok M31 q.1 q.2 := List.forall_mem_cons.mpr ⟨k_31_80, List.forall_mem_cons.mpr ⟨k_31_81, List.forall_mem_cons.mpr ⟨k_31_84, List.forall_mem_cons.mpr ⟨k_31_85, List.forall_mem_cons.mpr ⟨k_31_86, List.forall_mem_cons.mpr ⟨k_31_89, List.forall_mem_cons.mpr ⟨k_31_90, List.forall_mem_cons.mpr ⟨k_31_92, fun _ h => absurd h List.not_mem_nil⟩⟩⟩⟩⟩⟩⟩⟩
def B31_6 : List (Nat × aO) := [(95, oLA 1 96), (96, oGe 0 13 99), (99, oS (gKo (.int 0)) 100), (100, oLA 0 101), (101, oGe 0 13 104), (104, oS (gKo (.int 0)) 105), (105, oS (gKo (.int 6)) 107), (107, oCp 110)]
theorem B31_6_ok : ∀ q ∈ B31_6, Ok M31 q.1 q.2 := List.forall_mem_cons.mpr ⟨k_31_95, List.forall_mem_cons.mpr ⟨k_31_96, List.forall_mem_cons.mpr ⟨k_31_99, List.forall_mem_cons.mpr ⟨k_31_100, List.forall_mem_cons.mpr ⟨k_31_101, List.forall_mem_cons.mpr ⟨k_31_104, List.forall_mem_cons.mpr ⟨k_31_105, List.forall_mem_cons.mpr ⟨k_31_107, fun _ h => absurd h List.not_mem_nil⟩⟩⟩⟩⟩⟩⟩⟩
def B31_7 : List (Nat × aO) := [(110, oLA 1 111), (111, oGe 0 14 114), (114, oS (gKo (.int 0)) 115), (115, oLA 0 116), (116, oGe 0 14 119), (119, oS (gKo (.int 0)) 120), (120, oS (gKo (.int 6)) 122), (122, oCp 125)]
theorem B31_7_ok : ∀ q ∈ B31_7, Ok M31 q.1 q.2 := List.forall_mem_cons.mpr ⟨k_31_110, List.forall_mem_cons.mpr ⟨k_31_111, List.forall_mem_cons.mpr ⟨k_31_114, List.forall_mem_cons.mpr ⟨k_31_115, List.forall_mem_cons.mpr ⟨k_31_116, List.forall_mem_cons.mpr ⟨k_31_119, List.forall_mem_cons.mpr ⟨k_31_120, List.forall_mem_cons.mpr ⟨k_31_122, fun _ h => absurd h List.not_mem_nil⟩⟩⟩⟩⟩⟩⟩⟩
def B31_8 : List (Nat × aO) := [(125, oLA 1 126), (126, oGe 0 8 129), (129, oS (gKo (.int 0)) 130), (130, oLA 0 131), (131, oGe 0 8 134), (134, oS (gKo (.int 0)) 135), (135, oS (gKo (.int 6)) 137), (137, oCp 140)]
theorem B31_8_ok : ∀ q ∈ B31_8, Ok M31 q.1 q.2 := List.forall_mem_cons.mpr ⟨k_31_125, List.forall_mem_cons.mpr ⟨k_31_126, List.forall_mem_cons.mpr ⟨k_31_129, List.forall_mem_cons.mpr ⟨k_31_130, List.forall_mem_cons.mpr ⟨k_31_131, List.forall_mem_cons.mpr ⟨k_31_134, List.forall_mem_cons.mpr ⟨k_31_135, List.forall_mem_cons.mpr ⟨k_31_137, fun _ h => absurd h List.not_mem_nil⟩⟩⟩⟩⟩⟩⟩⟩
def B31_9 : List (Nat × aO) := [(140, oLA 1 141), (141, oGe 0 9 144), (144, oS (gKo (.int 0)) 145), (145, oLA 0 146), (146, oGe 0 9 149), (149, oS (gKo (.int 0)) 150), (150, oS (gKo (.int 6)) 152), (152, oCp 155)]
theorem B31_9_ok : ∀ q ∈ B31_9, Ok M31 q.1 q.2 := List.forall_mem_cons.mpr ⟨k_31_140, List.forall_mem_cons.mpr ⟨k_31_141, List.forall_mem_cons.mpr ⟨k_31_144, List.forall_mem_cons.mpr ⟨k_31_145, List.forall_mem_cons.mpr ⟨k_31_146, List.forall_mem_cons.mpr ⟨k_31_149, List.forall_mem_cons.mpr ⟨k_31_150, List.forall_mem_cons.mpr ⟨k_31_152, fun _ h => absurd h List.not_mem_nil⟩⟩⟩⟩⟩⟩⟩⟩
def B31_10 : List (Nat × aO) := [(155, oLA 1 156), (156, oGe 0 3 159), (159, oS (gKo (.int 0)) 160), (160, oLA 0 161), (161, oGe 0 3 164), (164, oS (gKo (.int 0)) 165), (165, oS (gKo (.int 4)) 166), (166, oCp 169)]
theorem B31_10_ok : ∀ q ∈ B31_10, Ok M31 q.1 q.2 := List.forall_mem_cons.mpr ⟨k_31_155, List.forall_mem_cons.mpr ⟨k_31_156, List.forall_mem_cons.mpr ⟨k_31_159, List.forall_mem_cons.mpr ⟨k_31_160, List.forall_mem_cons.mpr ⟨k_31_161, List.forall_mem_cons.mpr ⟨k_31_164, List.forall_mem_cons.mpr ⟨k_31_165, List.forall_mem_cons.mpr ⟨k_31_166, fun _ h => absurd h List.not_mem_nil⟩⟩⟩⟩⟩⟩⟩⟩
def B31_11 : List (Nat × aO) := [(169, oLA 1 170), (170, oGe 0 10 173), (173, oS (gKo (.int 0)) 174), (174, oLA 0 175), (175, oGe 0 10 178), (178, oS (gKo (.int 0)) 179), (179, oS (gKo (.int 4)) 180), (180, oCp 183)]
theorem B31_11_ok : ∀ q ∈ B31_11, Ok M31 q.1 q.2 := List.forall_mem_cons.mpr ⟨k_31_169, List.forall_mem_cons.mpr ⟨k_31_170, List.forall_mem_cons.mpr ⟨k_31_173, List.forall_mem_cons.mpr ⟨k_31_174, List.forall_mem_cons.mpr ⟨k_31_175, List.forall_mem_cons.mpr ⟨k_31_178, List.forall_mem_cons.mpr ⟨k_31_179, List.forall_mem_cons.mpr ⟨k_31_180, fun _ h => absurd h List.not_mem_nil⟩⟩⟩⟩⟩⟩⟩⟩
def B31_12 : List (Nat × aO) := [(183, oLA 1 184), (184, oGe 0 11 187), (187, oS (gKo (.int 0)) 188), (188, oLA 0 189), (189, oGe 0 11 192), (192, oS (gKo (.int 0)) 193), (193, oS (gKo (.int 4)) 194), (194, oCp 197)]
theorem B31_12_ok : ∀ q ∈ B31_12, Ok M31 q.1 q.2 := List.forall_mem_cons.mpr ⟨k_31_183, List.forall_mem_cons.mpr ⟨k_31_184, List.forall_mem_cons.mpr ⟨k_31_187, List.forall_mem_cons.mpr ⟨k_31_188, List.forall_mem_cons.mpr ⟨k_31_189, List.forall_mem_cons.mpr ⟨k_31_192, List.forall_mem_cons.mpr ⟨k_31_193, List.forall_mem_cons.mpr ⟨k_31_194, fun _ h => absurd h List.not_mem_nil⟩⟩⟩⟩⟩⟩⟩⟩
def B31_13 : List (Nat × aO) := [(197, oLA 1 198), (198, oGe 0 4 201), (201, oS (gKo (.int 0)) 202), (202, oLA 0 203), (203, oGe 0 4 206), (206, oS (gKo (.int 0)) 207), (207, oS (gKo (.int 24)) 209), (209, oCp 212)]
theorem B31_13_ok : ∀ q ∈ B31_13, Ok M31 q.1 q.2 := List.forall_mem_cons.mpr ⟨k_31_197, List.forall_mem_cons.mpr ⟨k_31_198, List.forall_mem_cons.mpr ⟨k_31_201, List.forall_mem_cons.mpr ⟨k_31_202, List.forall_mem_cons.mpr ⟨k_31_203, List.forall_mem_cons.mpr ⟨k_31_206, List.forall_mem_cons.mpr ⟨k_31_207, List.forall_mem_cons.mpr ⟨k_31_209, fun _ h => absurd h List.not_mem_nil⟩⟩⟩⟩⟩⟩⟩⟩
def B31_14 : List (Nat × aO) := [(212, oRV)]
theorem B31_14_ok : ∀ q ∈ B31_14, Ok M31 q.1 q.2 := List.forall_mem_cons.mpr ⟨k_31_212, fun _ h => absurd h List.not_mem_nil⟩
def P31 : List (Nat × List (Nat × aO)) := [(13, B31_0), (29, B31_1), (45, B31_2), (61, B31_3), (77, B31_4), (92, B31_5), (107, B31_6), (122, B31_7), (137, B31_8), (152, B31_9), (166, B31_10), (180, B31_11), (194, B31_12), (209, B31_13), (212, B31_14)]
theorem P31_ok : ∀ b ∈ P31, ∀ q ∈ b.2, Ok M31 q.1 q.2 := List.forall_mem_cons.mpr ⟨B31_0_ok, List.forall_mem_cons.mpr ⟨B31_1_ok, List.forall_mem_cons.mpr ⟨B31_2_ok, List.forall_mem_cons.mpr ⟨B31_3_ok, List.forall_mem_cons.mpr ⟨B31_4_ok, List.forall_mem_cons.mpr ⟨B31_5_ok, List.forall_mem_cons.mpr ⟨B31_6_ok, List.forall_mem_cons.mpr ⟨B31_7_ok, List.forall_mem_cons.mpr ⟨B31_8_ok, List.forall_mem_cons.mpr ⟨B31_9_ok, List.forall_mem_cons.mpr ⟨B31_10_ok, List.forall_mem_cons.mpr ⟨B31_11_ok, List.forall_mem_cons.mpr ⟨B31_12_ok, List.forall_mem_cons.mpr ⟨B31_13_ok, List.forall_mem_cons.mpr ⟨B31_14_ok, fun _ h => absurd h List.not_mem_nil⟩⟩⟩⟩⟩⟩⟩⟩⟩⟩⟩⟩⟩⟩⟩
theorem k_32_0 : Ok M32 0 (oLA 0 1) := r_aload_n (j := 0) (by decide +kernel) rfl
theorem k_32_1 : Ok M32 1 (oOb 4) := r_objInit (idx := 5) (by decide +kernel) w_235 w_86 w_oc
theorem k_32_4 : Ok M32 4 (oLA 0 5) := r_aload_n (j := 0) (by decide +kernel) rfl
theorem k_32_5 : Ok M32 5 (oS (gKo (.int 64)) 7) := r_bipush (n := 64) (by decide +kernel) (by decide +kernel)
theorem k_32_7 : Ok M32 7 (oNI 9) := r_newI (by decide +kernel) w_123
theorem k_32_9 : Ok M32 9 (oPR 1 0 12) := r_putR (idx := 11) (by decide +kernel) cd_1 0 (by decide) w_236 rfl rfl rfl rfl (.array .int) (by decide +kernel) (fun _ => ⟨rfl, rfl⟩)
theorem k_32_12 : Ok M32 12 (oLA 0 13) := r_aload_n (j := 0) (by decide +kernel) rfl
theorem k_32_13 : Ok M32 13 (oS (gKo (.int 11664)) 16) := r_sipush (n := 11664) (by decide +kernel) (by decide +kernel)
theorem k_32_16 : Ok M32 16 (oNJ 18) := r_newJ (by decide +kernel) w_243
theorem k_32_18 : Ok M32 18 (oPR 1 1 21) := r_putR (idx := 15) (by decide +kernel) cd_1 1 (by decide) w_237 rfl rfl rfl rfl (.array .long) (by decide +kernel) (fun _ => ⟨rfl, rfl⟩)
theorem k_32_21 : Ok M32 21 (oS (gKo (.int 1)) 22) := r_iconst (n := 1) (by decide +kernel) (by decide +kernel)
theorem k_32_22 : Ok M32 22 (oSI 1 2 23) := r_istore_n (j := 1) (by decide +kernel) rfl
theorem k_32_23 : Ok M32 23 (oLI 1 24) := r_iload_n (j := 1) (by decide +kernel) rfl
theorem k_32_24 : Ok M32 24 (oS (gKo (.int 64)) 26) := r_bipush (n := 64) (by decide +kernel) (by decide +kernel)
theorem k_32_26 : Ok M32 26 (oB2 b_icmp_ge q_ge 55 29) := r_icmp_ge (off := 29) (by decide +kernel) (by decide +kernel)
theorem k_32_29 : Ok M32 29 (oLA 0 30) := r_aload_n (j := 0) (by decide +kernel) rfl
theorem k_32_30 : Ok M32 30 (oGe 1 0 33) := r_get (idx := 11) (by decide +kernel) cd_1 0 (by decide) w_236 rfl
theorem k_32_33 : Ok M32 33 (oLI 1 34) := r_iload_n (j := 1) (by decide +kernel) rfl
theorem k_32_34 : Ok M32 34 (oS (gKo (.int 3)) 35) := r_iconst (n := 3) (by decide +kernel) (by decide +kernel)
theorem k_32_35 : Ok M32 35 (oLA 0 36) := r_aload_n (j := 0) (by decide +kernel) rfl
theorem k_32_36 : Ok M32 36 (oGe 1 0 39) := r_get (idx := 11) (by decide +kernel) cd_1 0 (by decide) w_236 rfl
theorem k_32_39 : Ok M32 39 (oLI 1 40) := r_iload_n (j := 1) (by decide +kernel) rfl
theorem k_32_40 : Ok M32 40 (oS (gKo (.int 1)) 41) := r_iconst (n := 1) (by decide +kernel) (by decide +kernel)
theorem k_32_41 : Ok M32 41 (oS (gI2 f_ishr) 42) := r_ishr (by decide +kernel)
theorem k_32_42 : Ok M32 42 (oAI 43) := r_iaload (by decide +kernel)
theorem k_32_43 : Ok M32 43 (oS (gI2 f_imul) 44) := r_imul (by decide +kernel)
theorem k_32_44 : Ok M32 44 (oLI 1 45) := r_iload_n (j := 1) (by decide +kernel) rfl
theorem k_32_45 : Ok M32 45 (oS (gKo (.int 1)) 46) := r_iconst (n := 1) (by decide +kernel) (by decide +kernel)
theorem k_32_46 : Ok M32 46 (oS (gI2 f_iand) 47) := r_iand (by decide +kernel)
theorem k_32_47 : Ok M32 47 (oS (gI2 f_iadd) 48) := r_iadd (by decide +kernel)
theorem k_32_48 : Ok M32 48 (oAT 49) := r_iastore (by decide +kernel)
theorem k_32_49 : Ok M32 49 (oInc 1 1 2 52) := r_iinc (n := 1) (by decide +kernel) (by decide +kernel)
theorem k_32_52 : Ok M32 52 (oGo 23) := r_goto (off := (-29)) (by decide +kernel) (by decide +kernel)
theorem k_32_55 : Ok M32 55 (oRV) := r_return rfl (by decide +kernel)
def B32_0 : List (Nat × aO) := [(0, oLA 0 1), (1, oOb 4), (4, oLA 0 5), (5, oS (gKo (.int 64)) 7), (7, oNI 9), (9, oPR 1 0 12), (12, oLA 0 13), (13, oS (gKo (.int 11664)) 16)]
theorem B32_0_ok : ∀ q ∈ B32_0, Ok M32 q.1 q.2 := List.forall_mem_cons.mpr ⟨k_32_0, List.forall_mem_cons.mpr ⟨k_32_1, List.forall_mem_cons.mpr ⟨k_32_4, List.forall_mem_cons.mpr ⟨k_32_5, List.forall_mem_cons.mpr ⟨k_32_7, List.forall_mem_cons.mpr ⟨k_32_9, List.forall_mem_cons.mpr ⟨k_32_12, List.forall_mem_cons.mpr ⟨k_32_13, fun _ h => absurd h List.not_mem_nil⟩⟩⟩⟩⟩⟩⟩⟩
def B32_1 : List (Nat × aO) := [(16, oNJ 18), (18, oPR 1 1 21), (21, oS (gKo (.int 1)) 22), (22, oSI 1 2 23), (23, oLI 1 24), (24, oS (gKo (.int 64)) 26), (26, oB2 b_icmp_ge q_ge 55 29), (29, oLA 0 30)]
theorem B32_1_ok : ∀ q ∈ B32_1, Ok M32 q.1 q.2 := List.forall_mem_cons.mpr ⟨k_32_16, List.forall_mem_cons.mpr ⟨k_32_18, List.forall_mem_cons.mpr ⟨k_32_21, List.forall_mem_cons.mpr ⟨k_32_22, List.forall_mem_cons.mpr ⟨k_32_23, List.forall_mem_cons.mpr ⟨k_32_24, List.forall_mem_cons.mpr ⟨k_32_26, List.forall_mem_cons.mpr ⟨k_32_29, fun _ h => absurd h List.not_mem_nil⟩⟩⟩⟩⟩⟩⟩⟩
def B32_2 : List (Nat × aO) := [(30, oGe 1 0 33), (33, oLI 1 34), (34, oS (gKo (.int 3)) 35), (35, oLA 0 36), (36, oGe 1 0 39), (39, oLI 1 40), (40, oS (gKo (.int 1)) 41), (41, oS (gI2 f_ishr) 42)]
theorem B32_2_ok : ∀ q ∈ B32_2, Ok M32 q.1 q.2 := List.forall_mem_cons.mpr ⟨k_32_30, List.forall_mem_cons.mpr ⟨k_32_33, List.forall_mem_cons.mpr ⟨k_32_34, List.forall_mem_cons.mpr ⟨k_32_35, List.forall_mem_cons.mpr ⟨k_32_36, List.forall_mem_cons.mpr ⟨k_32_39, List.forall_mem_cons.mpr ⟨k_32_40, List.forall_mem_cons.mpr ⟨k_32_41, fun _ h => absurd h List.not_mem_nil⟩⟩⟩⟩⟩⟩⟩⟩
def B32_3 : List (Nat × aO) := [(42, oAI 43), (43, oS (gI2 f_imul) 44), (44, oLI 1 45), (45, oS (gKo (.int 1)) 46), (46, oS (gI2 f_iand) 47), (47, oS (gI2 f_iadd) 48), (48, oAT 49), (49, oInc 1 1 2 52)]
theorem B32_3_ok : ∀ q ∈ B32_3, Ok M32 q.1 q.2 := List.forall_mem_cons.mpr ⟨k_32_42, List.forall_mem_cons.mpr ⟨k_32_43, List.forall_mem_cons.mpr ⟨k_32_44, List.forall_mem_cons.mpr ⟨k_32_45, List.forall_mem_cons.mpr ⟨k_32_46, List.forall_mem_cons.mpr ⟨k_32_47, List.forall_mem_cons.mpr ⟨k_32_48, List.forall_mem_cons.mpr ⟨k_32_49, fun _ h => absurd h List.not_mem_nil⟩⟩⟩⟩⟩⟩⟩⟩
def B32_4 : List (Nat × aO) := [(52, oGo 23), (55, oRV)]
theorem B32_4_ok : ∀ q ∈ B32_4, Ok M32 q.1 q.2 := List.forall_mem_cons.mpr ⟨k_32_52, List.forall_mem_cons.mpr ⟨k_32_55, fun _ h => absurd h List.not_mem_nil⟩⟩
def P32 : List (Nat × List (Nat × aO)) := [(13, B32_0), (29, B32_1), (41, B32_2), (49, B32_3), (55, B32_4)]
theorem P32_ok : ∀ b ∈ P32, ∀ q ∈ b.2, Ok M32 q.1 q.2 := List.forall_mem_cons.mpr ⟨B32_0_ok, List.forall_mem_cons.mpr ⟨B32_1_ok, List.forall_mem_cons.mpr ⟨B32_2_ok, List.forall_mem_cons.mpr ⟨B32_3_ok, List.forall_mem_cons.mpr ⟨B32_4_ok, fun _ h => absurd h List.not_mem_nil⟩⟩⟩⟩⟩
theorem k_33_0 : Ok M33 0 (oLA 1 1) := r_aload_n (j := 1) (by decide +kernel) rfl
theorem k_33_1 : Ok M33 1 (oLI 2 2) := r_iload_n (j := 2) (by decide +kernel) rfl
theorem k_33_2 : Ok M33 2 (oCV 0 8 1) := r_callV (idx := 19) (by decide +kernel) w_555 cv_8
theorem k_33_5 : Ok M33 5 (oLA 0 6) := r_aload_n (j := 0) (by decide +kernel) rfl
theorem k_33_6 : Ok M33 6 (oLA 1 7) := r_aload_n (j := 1) (by decide +kernel) rfl
theorem k_33_7 : Ok M33 7 (oLA 1 8) := r_aload_n (j := 1) (by decide +kernel) rfl
theorem k_33_8 : Ok M33 8 (oCV 0 11 0) := r_callV (idx := 25) (by decide +kernel) w_556 cv_11
theorem k_33_11 : Ok M33 11 (oLA 1 12) := r_aload_n (j := 1) (by decide +kernel) rfl
theorem k_33_12 : Ok M33 12 (oGe 0 16 15) := r_get (idx := 29) (by decide +kernel) cd_0 16 (by decide) w_166 rfl
theorem k_33_15 : Ok M33 15 (oLI 3 16) := r_iload_n (j := 3) (by decide +kernel) rfl
theorem k_33_16 : Ok M33 16 (oS (gKo (.int 0)) 17) := r_iconst (n := 0) (by decide +kernel) (by decide +kernel)
theorem k_33_17 : Ok M33 17 (oCV 1 41 5) := r_callV (idx := 33) (by decide +kernel) w_557 cv_41
theorem k_33_20 : Ok M33 20 (oLI 2 21) := r_iload_n (j := 2) (by decide +kernel) rfl
theorem k_33_21 : Ok M33 21 (oCS 37 2) := r_callS (idx := 37) (by decide +kernel) w_580 cs_37
theorem k_33_24 : Ok M33 24 (oS (gI2 f_iadd) 25) := r_iadd (by decide +kernel)
theorem k_33_25 : Ok M33 25 (oRI) := r_ireturn rfl (by decide +kernel)
def B33_0 : List (Nat × aO) := [(0, oLA 1 1), (1, oLI 2 2), (2, oCV 0 8 1), (5, oLA 0 6), (6, oLA 1 7), (7, oLA 1 8), (8, oCV 0 11 0), (11, oLA 1 12)]
theorem B33_0_ok : ∀ q ∈ B33_0, Ok M33 q.1 q.2 := List.forall_mem_cons.mpr ⟨k_33_0, List.forall_mem_cons.mpr ⟨k_33_1, List.forall_mem_cons.mpr ⟨k_33_2, List.forall_mem_cons.mpr ⟨k_33_5, List.forall_mem_cons.mpr ⟨k_33_6, List.forall_mem_cons.mpr ⟨k_33_7, List.forall_mem_cons.mpr ⟨k_33_8, List.forall_mem_cons.mpr ⟨k_33_11, fun _ h => absurd h List.not_mem_nil⟩⟩⟩⟩⟩⟩⟩⟩
def B33_1 : List (Nat × aO) := [(12, oGe 0 16 15), (15, oLI 3 16), (16, oS (gKo (.int 0)) 17), (17, oCV 1 41 5), (20, oLI 2 21), (21, oCS 37 2), (24, oS (gI2 f_iadd) 25), (25, oRI)]
theorem B33_1_ok : ∀ q ∈ B33_1, Ok M33 q.1 q.2 := List.forall_mem_cons.mpr ⟨k_33_12, List.forall_mem_cons.mpr ⟨k_33_15, List.forall_mem_cons.mpr ⟨k_33_16, List.forall_mem_cons.mpr ⟨k_33_17, List.forall_mem_cons.mpr ⟨k_33_20, List.forall_mem_cons.mpr ⟨k_33_21, List.forall_mem_cons.mpr ⟨k_33_24, List.forall_mem_cons.mpr ⟨k_33_25, fun _ h => absurd h List.not_mem_nil⟩⟩⟩⟩⟩⟩⟩⟩
def P33 : List (Nat × List (Nat × aO)) := [(11, B33_0), (25, B33_1)]
theorem P33_ok : ∀ b ∈ P33, ∀ q ∈ b.2, Ok M33 q.1 q.2 := List.forall_mem_cons.mpr ⟨B33_0_ok, List.forall_mem_cons.mpr ⟨B33_1_ok, fun _ h => absurd h List.not_mem_nil⟩⟩
theorem k_34_0 : Ok M34 0 (oLA 0 1) := r_aload_n (j := 0) (by decide +kernel) rfl
theorem k_34_1 : Ok M34 1 (oLA 1 2) := r_aload_n (j := 1) (by decide +kernel) rfl
theorem k_34_2 : Ok M34 2 (oLA 1 3) := r_aload_n (j := 1) (by decide +kernel) rfl
theorem k_34_3 : Ok M34 3 (oCV 0 11 0) := r_callV (idx := 25) (by decide +kernel) w_556 cv_11
theorem k_34_6 : Ok M34 6 (oLA 1 7) := r_aload_n (j := 1) (by decide +kernel) rfl
theorem k_34_7 : Ok M34 7 (oGe 0 16 10) := r_get (idx := 29) (by decide +kernel) cd_0 16 (by decide) w_166 rfl
theorem k_34_10 : Ok M34 10 (oLA 1 11) := r_aload_n (j := 1) (by decide +kernel) rfl
theorem k_34_11 : Ok M34 11 (oGe 0 15 14) := r_get (idx := 41) (by decide +kernel) cd_0 15 (by decide) w_163 rfl
theorem k_34_14 : Ok M34 14 (oS (gKo (.int 0)) 15) := r_iconst (n := 0) (by decide +kernel) (by decide +kernel)
theorem k_34_15 : Ok M34 15 (oCV 1 41 5) := r_callV (idx := 33) (by decide +kernel) w_557 cv_41
theorem k_34_18 : Ok M34 18 (oCS 39 1) := r_callS (idx := 44) (by decide +kernel) w_592 cs_39
theorem k_34_21 : Ok M34 21 (oRI) := r_ireturn rfl (by decide +kernel)
def B34_0 : List (Nat × aO) := [(0, oLA 0 1), (1, oLA 1 2), (2, oLA 1 3), (3, oCV 0 11 0), (6, oLA 1 7), (7, oGe 0 16 10), (10, oLA 1 11), (11, oGe 0 15 14)]
theorem B34_0_ok : ∀ q ∈ B34_0, Ok M34 q.1 q.2 := List.forall_mem_cons.mpr ⟨k_34_0, List.forall_mem_cons.mpr ⟨k_34_1, List.forall_mem_cons.mpr ⟨k_34_2, List.forall_mem_cons.mpr ⟨k_34_3, List.forall_mem_cons.mpr ⟨k_34_6, List.forall_mem_cons.mpr ⟨k_34_7, List.forall_mem_cons.mpr ⟨k_34_10, List.forall_mem_cons.mpr ⟨k_34_11, fun _ h => absurd h List.not_mem_nil⟩⟩⟩⟩⟩⟩⟩⟩
def B34_1 : List (Nat × aO) := [(14, oS (gKo (.int 0)) 15), (15, oCV 1 41 5), (18, oCS 39 1), (21, oRI)]
theorem B34_1_ok : ∀ q ∈ B34_1, Ok M34 q.1 q.2 := List.forall_mem_cons.mpr ⟨k_34_14, List.forall_mem_cons.mpr ⟨k_34_15, List.forall_mem_cons.mpr ⟨k_34_18, List.forall_mem_cons.mpr ⟨k_34_21, fun _ h => absurd h List.not_mem_nil⟩⟩⟩⟩
def P34 : List (Nat × List (Nat × aO)) := [(11, B34_0), (21, B34_1)]
theorem P34_ok : ∀ b ∈ P34, ∀ q ∈ b.2, Ok M34 q.1 q.2 := List.forall_mem_cons.mpr ⟨B34_0_ok, List.forall_mem_cons.mpr ⟨B34_1_ok, fun _ h => absurd h List.not_mem_nil⟩⟩
theorem k_35_0 : Ok M35 0 (oLA 0 1) := r_aload_n (j := 0) (by decide +kernel) rfl
theorem k_35_1 : Ok M35 1 (oLA 1 2) := r_aload_n (j := 1) (by decide +kernel) rfl
theorem k_35_2 : Ok M35 2 (oLI 2 3) := r_iload_n (j := 2) (by decide +kernel) rfl
theorem k_35_3 : Ok M35 3 (oLA 1 4) := r_aload_n (j := 1) (by decide +kernel) rfl
theorem k_35_4 : Ok M35 4 (oCV 0 11 0) := r_callV (idx := 25) (by decide +kernel) w_556 cv_11
theorem k_35_7 : Ok M35 7 (oLA 1 8) := r_aload_n (j := 1) (by decide +kernel) rfl
theorem k_35_8 : Ok M35 8 (oGe 0 16 11) := r_get (idx := 29) (by decide +kernel) cd_0 16 (by decide) w_166 rfl
theorem k_35_11 : Ok M35 11 (oLA 1 12) := r_aload_n (j := 1) (by decide +kernel) rfl
theorem k_35_12 : Ok M35 12 (oGe 0 15 15) := r_get (idx := 41) (by decide +kernel) cd_0 15 (by decide) w_163 rfl
theorem k_35_15 : Ok M35 15 (oS (gKo (.int 0)) 16) := r_iconst (n := 0) (by decide +kernel) (by decide +kernel)
theorem k_35_16 : Ok M35 16 (oCV 1 42 6) := r_callV (idx := 48) (by decide +kernel) w_574 cv_42
theorem k_35_19 : Ok M35 19 (oCS 38 1) := r_callS (idx := 52) (by decide +kernel) w_604 cs_38
theorem k_35_22 : Ok M35 22 (oRI) := r_ireturn rfl (by decide +kernel)
def B35_0 : List (Nat × aO) := [(0, oLA 0 1), (1, oLA 1 2), (2, oLI 2 3), (3, oLA 1 4), (4, oCV 0 11 0), (7, oLA 1 8), (8, oGe 0 16 11), (11, oLA 1 12)]
theorem B35_0_ok : ∀ q ∈ B35_0, Ok M35 q.1 q.2 := List.forall_mem_cons.mpr ⟨k_35_0, List.forall_mem_cons.mpr ⟨k_35_1, List.forall_mem_cons.mpr ⟨k_35_2, List.forall_mem_cons.mpr ⟨k_35_3, List.forall_mem_cons.mpr ⟨k_35_4, List.forall_mem_cons.mpr ⟨k_35_7, List.forall_mem_cons.mpr ⟨k_35_8, List.forall_mem_cons.mpr ⟨k_35_11, fun _ h => absurd h List.not_mem_nil⟩⟩⟩⟩⟩⟩⟩⟩
def B35_1 : List (Nat × aO) := [(12, oGe 0 15 15), (15, oS (gKo (.int 0)) 16), (16, oCV 1 42 6), (19, oCS 38 1), (22, oRI)]
theorem B35_1_ok : ∀ q ∈ B35_1, Ok M35 q.1 q.2 := List.forall_mem_cons.mpr ⟨k_35_12, List.forall_mem_cons.mpr ⟨k_35_15, List.forall_mem_cons.mpr ⟨k_35_16, List.forall_mem_cons.mpr ⟨k_35_19, List.forall_mem_cons.mpr ⟨k_35_22, fun _ h => absurd h List.not_mem_nil⟩⟩⟩⟩⟩
def P35 : List (Nat × List (Nat × aO)) := [(11, B35_0), (22, B35_1)]
theorem P35_ok : ∀ b ∈ P35, ∀ q ∈ b.2, Ok M35 q.1 q.2 := List.forall_mem_cons.mpr ⟨B35_0_ok, List.forall_mem_cons.mpr ⟨B35_1_ok, fun _ h => absurd h List.not_mem_nil⟩⟩
