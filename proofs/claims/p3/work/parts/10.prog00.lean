theorem k_0_0 : Ok M0 0 (oLA 0 1) := r_aload_n (j := 0) (by decide +kernel) rfl
theorem k_0_1 : Ok M0 1 (oOb 4) := r_objInit (idx := 3) (by decide +kernel) w_129 w_86 w_oc
theorem k_0_4 : Ok M0 4 (oLA 0 5) := r_aload_n (j := 0) (by decide +kernel) rfl
theorem k_0_5 : Ok M0 5 (oS (gKo (.int 6)) 7) := r_bipush (n := 6) (by decide +kernel) (by decide +kernel)
theorem k_0_7 : Ok M0 7 (oNI 9) := r_newI (by decide +kernel) w_123
theorem k_0_9 : Ok M0 9 (oPR 0 1 12) := r_putR (idx := 9) (by decide +kernel) cd_0 1 (by decide) w_134 rfl rfl rfl rfl (.array .int) (by decide +kernel) (fun _ => ⟨rfl, rfl⟩)
theorem k_0_12 : Ok M0 12 (oLA 0 13) := r_aload_n (j := 0) (by decide +kernel) rfl
theorem k_0_13 : Ok M0 13 (oS (gKo (.int 4)) 14) := r_iconst (n := 4) (by decide +kernel) (by decide +kernel)
theorem k_0_14 : Ok M0 14 (oNI 16) := r_newI (by decide +kernel) w_123
theorem k_0_16 : Ok M0 16 (oPR 0 3 19) := r_putR (idx := 15) (by decide +kernel) cd_0 3 (by decide) w_140 rfl rfl rfl rfl (.array .int) (by decide +kernel) (fun _ => ⟨rfl, rfl⟩)
theorem k_0_19 : Ok M0 19 (oLA 0 20) := r_aload_n (j := 0) (by decide +kernel) rfl
theorem k_0_20 : Ok M0 20 (oS (gKo (.int 24)) 22) := r_bipush (n := 24) (by decide +kernel) (by decide +kernel)
theorem k_0_22 : Ok M0 22 (oNI 24) := r_newI (by decide +kernel) w_123
theorem k_0_24 : Ok M0 24 (oPR 0 4 27) := r_putR (idx := 18) (by decide +kernel) cd_0 4 (by decide) w_143 rfl rfl rfl rfl (.array .int) (by decide +kernel) (fun _ => ⟨rfl, rfl⟩)
theorem k_0_27 : Ok M0 27 (oLA 0 28) := r_aload_n (j := 0) (by decide +kernel) rfl
theorem k_0_28 : Ok M0 28 (oS (gKo (.int 6)) 30) := r_bipush (n := 6) (by decide +kernel) (by decide +kernel)
theorem k_0_30 : Ok M0 30 (oNI 32) := r_newI (by decide +kernel) w_123
theorem k_0_32 : Ok M0 32 (oPR 0 8 35) := r_putR (idx := 21) (by decide +kernel) cd_0 8 (by decide) w_150 rfl rfl rfl rfl (.array .int) (by decide +kernel) (fun _ => ⟨rfl, rfl⟩)
theorem k_0_35 : Ok M0 35 (oLA 0 36) := r_aload_n (j := 0) (by decide +kernel) rfl
theorem k_0_36 : Ok M0 36 (oS (gKo (.int 6)) 38) := r_bipush (n := 6) (by decide +kernel) (by decide +kernel)
theorem k_0_38 : Ok M0 38 (oNI 40) := r_newI (by decide +kernel) w_123
theorem k_0_40 : Ok M0 40 (oPR 0 9 43) := r_putR (idx := 24) (by decide +kernel) cd_0 9 (by decide) w_151 rfl rfl rfl rfl (.array .int) (by decide +kernel) (fun _ => ⟨rfl, rfl⟩)
theorem k_0_43 : Ok M0 43 (oLA 0 44) := r_aload_n (j := 0) (by decide +kernel) rfl
theorem k_0_44 : Ok M0 44 (oS (gKo (.int 4)) 45) := r_iconst (n := 4) (by decide +kernel) (by decide +kernel)
theorem k_0_45 : Ok M0 45 (oNI 47) := r_newI (by decide +kernel) w_123
theorem k_0_47 : Ok M0 47 (oPR 0 10 50) := r_putR (idx := 27) (by decide +kernel) cd_0 10 (by decide) w_153 rfl rfl rfl rfl (.array .int) (by decide +kernel) (fun _ => ⟨rfl, rfl⟩)
theorem k_0_50 : Ok M0 50 (oLA 0 51) := r_aload_n (j := 0) (by decide +kernel) rfl
theorem k_0_51 : Ok M0 51 (oS (gKo (.int 4)) 52) := r_iconst (n := 4) (by decide +kernel) (by decide +kernel)
theorem k_0_52 : Ok M0 52 (oNI 54) := r_newI (by decide +kernel) w_123
theorem k_0_54 : Ok M0 54 (oPR 0 11 57) := r_putR (idx := 30) (by decide +kernel) cd_0 11 (by decide) w_155 rfl rfl rfl rfl (.array .int) (by decide +kernel) (fun _ => ⟨rfl, rfl⟩)
theorem k_0_57 : Ok M0 57 (oLA 0 58) := r_aload_n (j := 0) (by decide +kernel) rfl
theorem k_0_58 : Ok M0 58 (oS (gKo (.int 6)) 60) := r_bipush (n := 6) (by decide +kernel) (by decide +kernel)
theorem k_0_60 : Ok M0 60 (oNI 62) := r_newI (by decide +kernel) w_123
theorem k_0_62 : Ok M0 62 (oPR 0 13 65) := r_putR (idx := 33) (by decide +kernel) cd_0 13 (by decide) w_159 rfl rfl rfl rfl (.array .int) (by decide +kernel) (fun _ => ⟨rfl, rfl⟩)
theorem k_0_65 : Ok M0 65 (oLA 0 66) := r_aload_n (j := 0) (by decide +kernel) rfl
theorem k_0_66 : Ok M0 66 (oS (gKo (.int 6)) 68) := r_bipush (n := 6) (by decide +kernel) (by decide +kernel)
theorem k_0_68 : Ok M0 68 (oNI 70) := r_newI (by decide +kernel) w_123
theorem k_0_70 : Ok M0 70 (oPR 0 14 73) := r_putR (idx := 36) (by decide +kernel) cd_0 14 (by decide) w_161 rfl rfl rfl rfl (.array .int) (by decide +kernel) (fun _ => ⟨rfl, rfl⟩)
theorem k_0_73 : Ok M0 73 (oLA 0 74) := r_aload_n (j := 0) (by decide +kernel) rfl
theorem k_0_74 : Ok M0 74 (oS (gKo (.int (-1))) 75) := r_iconst (n := (-1)) (by decide +kernel) (by decide +kernel)
theorem k_0_75 : Ok M0 75 (oPI 0 17 78) := r_putI (idx := 39) (by decide +kernel) cd_0 17 (by decide) w_169 rfl rfl (by decide +kernel)
theorem k_0_78 : Ok M0 78 (oRV) := r_return rfl (by decide +kernel)
def B0_0 : List (Nat × aO) := [(0, oLA 0 1), (1, oOb 4), (4, oLA 0 5), (5, oS (gKo (.int 6)) 7), (7, oNI 9), (9, oPR 0 1 12), (12, oLA 0 13), (13, oS (gKo (.int 4)) 14)]
theorem B0_0_ok : ∀ q ∈ B0_0, Ok M0 q.1 q.2 := List.forall_mem_cons.mpr ⟨k_0_0, List.forall_mem_cons.mpr ⟨k_0_1, List.forall_mem_cons.mpr ⟨k_0_4, List.forall_mem_cons.mpr ⟨k_0_5, List.forall_mem_cons.mpr ⟨k_0_7, List.forall_mem_cons.mpr ⟨k_0_9, List.forall_mem_cons.mpr ⟨k_0_12, List.forall_mem_cons.mpr ⟨k_0_13, fun _ h => absurd h List.not_mem_nil⟩⟩⟩⟩⟩⟩⟩⟩
def B0_1 : List (Nat × aO) := [(14, oNI 16), (16, oPR 0 3 19), (19, oLA 0 20), (20, oS (gKo (.int 24)) 22), (22, oNI 24), (24, oPR 0 4 27), (27, oLA 0 28), (28, oS (gKo (.int 6)) 30)]
theorem B0_1_ok : ∀ q ∈ B0_1, Ok M0 q.1 q.2 := List.forall_mem_cons.mpr ⟨k_0_14, List.forall_mem_cons.mpr ⟨k_0_16, List.forall_mem_cons.mpr ⟨k_0_19, List.forall_mem_cons.mpr ⟨k_0_20, List.forall_mem_cons.mpr ⟨k_0_22, List.forall_mem_cons.mpr ⟨k_0_24, List.forall_mem_cons.mpr ⟨k_0_27, List.forall_mem_cons.mpr ⟨k_0_28, fun _ h => absurd h List.not_mem_nil⟩⟩⟩⟩⟩⟩⟩⟩
def B0_2 : List (Nat × aO) := [(30, oNI 32), (32, oPR 0 8 35), (35, oLA 0 36), (36, oS (gKo (.int 6)) 38), (38, oNI 40), (40, oPR 0 9 43), (43, oLA 0 44), (44, oS (gKo (.int 4)) 45)]
theorem B0_2_ok : ∀ q ∈ B0_2, Ok M0 q.1 q.2 := List.forall_mem_cons.mpr ⟨k_0_30, List.forall_mem_cons.mpr ⟨k_0_32, List.forall_mem_cons.mpr ⟨k_0_35, List.forall_mem_cons.mpr ⟨k_0_36, List.forall_mem_cons.mpr ⟨k_0_38, List.forall_mem_cons.mpr ⟨k_0_40, List.forall_mem_cons.mpr ⟨k_0_43, List.forall_mem_cons.mpr ⟨k_0_44, fun _ h => absurd h List.not_mem_nil⟩⟩⟩⟩⟩⟩⟩⟩
def B0_3 : List (Nat × aO) := [(45, oNI 47), (47, oPR 0 10 50), (50, oLA 0 51), (51, oS (gKo (.int 4)) 52), (52, oNI 54), (54, oPR 0 11 57), (57, oLA 0 58), (58, oS (gKo (.int 6)) 60)]
theorem B0_3_ok : ∀ q ∈ B0_3, Ok M0 q.1 q.2 := List.forall_mem_cons.mpr ⟨k_0_45, List.forall_mem_cons.mpr ⟨k_0_47, List.forall_mem_cons.mpr ⟨k_0_50, List.forall_mem_cons.mpr ⟨k_0_51, List.forall_mem_cons.mpr ⟨k_0_52, List.forall_mem_cons.mpr ⟨k_0_54, List.forall_mem_cons.mpr ⟨k_0_57, List.forall_mem_cons.mpr ⟨k_0_58, fun _ h => absurd h List.not_mem_nil⟩⟩⟩⟩⟩⟩⟩⟩
def B0_4 : List (Nat × aO) := [(60, oNI 62), (62, oPR 0 13 65), (65, oLA 0 66), (66, oS (gKo (.int 6)) 68), (68, oNI 70), (70, oPR 0 14 73), (73, oLA 0 74), (74, oS (gKo (.int (-1))) 75)]
theorem B0_4_ok : ∀ q ∈ B0_4, Ok M0 q.1 q.2 := List.forall_mem_cons.mpr ⟨k_0_60, List.forall_mem_cons.mpr ⟨k_0_62, List.forall_mem_cons.mpr ⟨k_0_65, List.forall_mem_cons.mpr ⟨k_0_66, List.forall_mem_cons.mpr ⟨k_0_68, List.forall_mem_cons.mpr ⟨k_0_70, List.forall_mem_cons.mpr ⟨k_0_73, List.forall_mem_cons.mpr ⟨k_0_74, fun _ h => absurd h List.not_mem_nil⟩⟩⟩⟩⟩⟩⟩⟩
def B0_5 : List (Nat × aO) := [(75, oPI 0 17 78), (78, oRV)]
theorem B0_5_ok : ∀ q ∈ B0_5, Ok M0 q.1 q.2 := List.forall_mem_cons.mpr ⟨k_0_75, List.forall_mem_cons.mpr ⟨k_0_78, fun _ h => absurd h List.not_mem_nil⟩⟩
def P0 : List (Nat × List (Nat × aO)) := [(13, B0_0), (28, B0_1), (44, B0_2), (58, B0_3), (74, B0_4), (78, B0_5)]
theorem P0_ok : ∀ b ∈ P0, ∀ q ∈ b.2, Ok M0 q.1 q.2 := List.forall_mem_cons.mpr ⟨B0_0_ok, List.forall_mem_cons.mpr ⟨B0_1_ok, List.forall_mem_cons.mpr ⟨B0_2_ok, List.forall_mem_cons.mpr ⟨B0_3_ok, List.forall_mem_cons.mpr ⟨B0_4_ok, List.forall_mem_cons.mpr ⟨B0_5_ok, fun _ h => absurd h List.not_mem_nil⟩⟩⟩⟩⟩⟩
theorem k_1_0 : Ok M1 0 (oLI 1 1) := r_iload_n (j := 1) (by decide +kernel) rfl
theorem k_1_1 : Ok M1 1 (oB1 b_if_lt q_lt 16 4) := r_if_lt (off := 15) (by decide +kernel) (by decide +kernel)
theorem k_1_4 : Ok M1 4 (oLI 1 5) := r_iload_n (j := 1) (by decide +kernel) rfl
theorem k_1_5 : Ok M1 5 (oLA 0 6) := r_aload_n (j := 0) (by decide +kernel) rfl
theorem k_1_6 : Ok M1 6 (oGe 0 0 9) := r_get (idx := 43) (by decide +kernel) cd_0 0 (by decide) w_130 rfl
theorem k_1_9 : Ok M1 9 (oB2 b_icmp_ge q_ge 16 12) := r_icmp_ge (off := 7) (by decide +kernel) (by decide +kernel)
theorem k_1_12 : Ok M1 12 (oS (gKo (.int 1)) 13) := r_iconst (n := 1) (by decide +kernel) (by decide +kernel)
theorem k_1_13 : Ok M1 13 (oGo 17) := r_goto (off := 4) (by decide +kernel) (by decide +kernel)
theorem k_1_16 : Ok M1 16 (oS (gKo (.int 0)) 17) := r_iconst (n := 0) (by decide +kernel) (by decide +kernel)
theorem k_1_17 : Ok M1 17 (oRZ) := r_zreturn rfl (by decide +kernel)
def B1_0 : List (Nat × aO) := [(0, oLI 1 1), (1, oB1 b_if_lt q_lt 16 4), (4, oLI 1 5), (5, oLA 0 6), (6, oGe 0 0 9), (9, oB2 b_icmp_ge q_ge 16 12), (12, oS (gKo (.int 1)) 13), (13, oGo 17)]
theorem B1_0_ok : ∀ q ∈ B1_0, Ok M1 q.1 q.2 := List.forall_mem_cons.mpr ⟨k_1_0, List.forall_mem_cons.mpr ⟨k_1_1, List.forall_mem_cons.mpr ⟨k_1_4, List.forall_mem_cons.mpr ⟨k_1_5, List.forall_mem_cons.mpr ⟨k_1_6, List.forall_mem_cons.mpr ⟨k_1_9, List.forall_mem_cons.mpr ⟨k_1_12, List.forall_mem_cons.mpr ⟨k_1_13, fun _ h => absurd h List.not_mem_nil⟩⟩⟩⟩⟩⟩⟩⟩
def B1_1 : List (Nat × aO) := [(16, oS (gKo (.int 0)) 17), (17, oRZ)]
theorem B1_1_ok : ∀ q ∈ B1_1, Ok M1 q.1 q.2 := List.forall_mem_cons.mpr ⟨k_1_16, List.forall_mem_cons.mpr ⟨k_1_17, fun _ h => absurd h List.not_mem_nil⟩⟩
def P1 : List (Nat × List (Nat × aO)) := [(13, B1_0), (17, B1_1)]
theorem P1_ok : ∀ b ∈ P1, ∀ q ∈ b.2, Ok M1 q.1 q.2 := List.forall_mem_cons.mpr ⟨B1_0_ok, List.forall_mem_cons.mpr ⟨B1_1_ok, fun _ h => absurd h List.not_mem_nil⟩⟩
theorem k_2_0 : Ok M2 0 (oLI 1 1) := r_iload_n (j := 1) (by decide +kernel) rfl
theorem k_2_1 : Ok M2 1 (oB1 b_if_lt q_lt 16 4) := r_if_lt (off := 15) (by decide +kernel) (by decide +kernel)
theorem k_2_4 : Ok M2 4 (oLI 1 5) := r_iload_n (j := 1) (by decide +kernel) rfl
theorem k_2_5 : Ok M2 5 (oLA 0 6) := r_aload_n (j := 0) (by decide +kernel) rfl
theorem k_2_6 : Ok M2 6 (oGe 0 2 9) := r_get (idx := 46) (by decide +kernel) cd_0 2 (by decide) w_136 rfl
theorem k_2_9 : Ok M2 9 (oB2 b_icmp_ge q_ge 16 12) := r_icmp_ge (off := 7) (by decide +kernel) (by decide +kernel)
theorem k_2_12 : Ok M2 12 (oS (gKo (.int 1)) 13) := r_iconst (n := 1) (by decide +kernel) (by decide +kernel)
theorem k_2_13 : Ok M2 13 (oGo 17) := r_goto (off := 4) (by decide +kernel) (by decide +kernel)
theorem k_2_16 : Ok M2 16 (oS (gKo (.int 0)) 17) := r_iconst (n := 0) (by decide +kernel) (by decide +kernel)
theorem k_2_17 : Ok M2 17 (oRZ) := r_zreturn rfl (by decide +kernel)
def B2_0 : List (Nat × aO) := [(0, oLI 1 1), (1, oB1 b_if_lt q_lt 16 4), (4, oLI 1 5), (5, oLA 0 6), (6, oGe 0 2 9), (9, oB2 b_icmp_ge q_ge 16 12), (12, oS (gKo (.int 1)) 13), (13, oGo 17)]
theorem B2_0_ok : ∀ q ∈ B2_0, Ok M2 q.1 q.2 := List.forall_mem_cons.mpr ⟨k_2_0, List.forall_mem_cons.mpr ⟨k_2_1, List.forall_mem_cons.mpr ⟨k_2_4, List.forall_mem_cons.mpr ⟨k_2_5, List.forall_mem_cons.mpr ⟨k_2_6, List.forall_mem_cons.mpr ⟨k_2_9, List.forall_mem_cons.mpr ⟨k_2_12, List.forall_mem_cons.mpr ⟨k_2_13, fun _ h => absurd h List.not_mem_nil⟩⟩⟩⟩⟩⟩⟩⟩
def B2_1 : List (Nat × aO) := [(16, oS (gKo (.int 0)) 17), (17, oRZ)]
theorem B2_1_ok : ∀ q ∈ B2_1, Ok M2 q.1 q.2 := List.forall_mem_cons.mpr ⟨k_2_16, List.forall_mem_cons.mpr ⟨k_2_17, fun _ h => absurd h List.not_mem_nil⟩⟩
def P2 : List (Nat × List (Nat × aO)) := [(13, B2_0), (17, B2_1)]
theorem P2_ok : ∀ b ∈ P2, ∀ q ∈ b.2, Ok M2 q.1 q.2 := List.forall_mem_cons.mpr ⟨B2_0_ok, List.forall_mem_cons.mpr ⟨B2_1_ok, fun _ h => absurd h List.not_mem_nil⟩⟩
theorem k_3_0 : Ok M3 0 (oLI 1 1) := r_iload_n (j := 1) (by decide +kernel) rfl
theorem k_3_1 : Ok M3 1 (oS (gKo (.int 6)) 3) := r_bipush (n := 6) (by decide +kernel) (by decide +kernel)
theorem k_3_3 : Ok M3 3 (oS (gI2 f_imul) 4) := r_imul (by decide +kernel)
theorem k_3_4 : Ok M3 4 (oLI 2 5) := r_iload_n (j := 2) (by decide +kernel) rfl
theorem k_3_5 : Ok M3 5 (oS (gI2 f_iadd) 6) := r_iadd (by decide +kernel)
theorem k_3_6 : Ok M3 6 (oSI 3 4 7) := r_istore_n (j := 3) (by decide +kernel) rfl
theorem k_3_7 : Ok M3 7 (oLI 3 8) := r_iload_n (j := 3) (by decide +kernel) rfl
theorem k_3_8 : Ok M3 8 (oB1 b_if_lt q_lt 29 11) := r_if_lt (off := 21) (by decide +kernel) (by decide +kernel)
theorem k_3_11 : Ok M3 11 (oLI 3 12) := r_iload_n (j := 3) (by decide +kernel) rfl
theorem k_3_12 : Ok M3 12 (oLA 0 13) := r_aload_n (j := 0) (by decide +kernel) rfl
theorem k_3_13 : Ok M3 13 (oGe 0 4 16) := r_get (idx := 18) (by decide +kernel) cd_0 4 (by decide) w_143 rfl
theorem k_3_16 : Ok M3 16 (oAn 17) := r_alen (by decide +kernel)
theorem k_3_17 : Ok M3 17 (oB2 b_icmp_ge q_ge 29 20) := r_icmp_ge (off := 12) (by decide +kernel) (by decide +kernel)
theorem k_3_20 : Ok M3 20 (oLA 0 21) := r_aload_n (j := 0) (by decide +kernel) rfl
theorem k_3_21 : Ok M3 21 (oGe 0 4 24) := r_get (idx := 18) (by decide +kernel) cd_0 4 (by decide) w_143 rfl
theorem k_3_24 : Ok M3 24 (oLI 3 25) := r_iload_n (j := 3) (by decide +kernel) rfl
theorem k_3_25 : Ok M3 25 (oAI 26) := r_iaload (by decide +kernel)
theorem k_3_26 : Ok M3 26 (oGo 30) := r_goto (off := 4) (by decide +kernel) (by decide +kernel)
theorem k_3_29 : Ok M3 29 (oS (gKo (.int 0)) 30) := r_iconst (n := 0) (by decide +kernel) (by decide +kernel)
theorem k_3_30 : Ok M3 30 (oRI) := r_ireturn rfl (by decide +kernel)
def B3_0 : List (Nat × aO) := [(0, oLI 1 1), (1, oS (gKo (.int 6)) 3), (3, oS (gI2 f_imul) 4), (4, oLI 2 5), (5, oS (gI2 f_iadd) 6), (6, oSI 3 4 7), (7, oLI 3 8), (8, oB1 b_if_lt q_lt 29 11)]
theorem B3_0_ok : ∀ q ∈ B3_0, Ok M3 q.1 q.2 := List.forall_mem_cons.mpr ⟨k_3_0, List.forall_mem_cons.mpr ⟨k_3_1, List.forall_mem_cons.mpr ⟨k_3_3, List.forall_mem_cons.mpr ⟨k_3_4, List.forall_mem_cons.mpr ⟨k_3_5, List.forall_mem_cons.mpr ⟨k_3_6, List.forall_mem_cons.mpr ⟨k_3_7, List.forall_mem_cons.mpr ⟨k_3_8, fun _ h => absurd h List.not_mem_nil⟩⟩⟩⟩⟩⟩⟩⟩
def B3_1 : List (Nat × aO) := [(11, oLI 3 12), (12, oLA 0 13), (13, oGe 0 4 16), (16, oAn 17), (17, oB2 b_icmp_ge q_ge 29 20), (20, oLA 0 21), (21, oGe 0 4 24), (24, oLI 3 25)]
theorem B3_1_ok : ∀ q ∈ B3_1, Ok M3 q.1 q.2 := List.forall_mem_cons.mpr ⟨k_3_11, List.forall_mem_cons.mpr ⟨k_3_12, List.forall_mem_cons.mpr ⟨k_3_13, List.forall_mem_cons.mpr ⟨k_3_16, List.forall_mem_cons.mpr ⟨k_3_17, List.forall_mem_cons.mpr ⟨k_3_20, List.forall_mem_cons.mpr ⟨k_3_21, List.forall_mem_cons.mpr ⟨k_3_24, fun _ h => absurd h List.not_mem_nil⟩⟩⟩⟩⟩⟩⟩⟩
def B3_2 : List (Nat × aO) := [(25, oAI 26), (26, oGo 30), (29, oS (gKo (.int 0)) 30), (30, oRI)]
theorem B3_2_ok : ∀ q ∈ B3_2, Ok M3 q.1 q.2 := List.forall_mem_cons.mpr ⟨k_3_25, List.forall_mem_cons.mpr ⟨k_3_26, List.forall_mem_cons.mpr ⟨k_3_29, List.forall_mem_cons.mpr ⟨k_3_30, fun _ h => absurd h List.not_mem_nil⟩⟩⟩⟩
def P3 : List (Nat × List (Nat × aO)) := [(8, B3_0), (24, B3_1), (30, B3_2)]
theorem P3_ok : ∀ b ∈ P3, ∀ q ∈ b.2, Ok M3 q.1 q.2 := List.forall_mem_cons.mpr ⟨B3_0_ok, List.forall_mem_cons.mpr ⟨B3_1_ok, List.forall_mem_cons.mpr ⟨B3_2_ok, fun _ h => absurd h List.not_mem_nil⟩⟩⟩
theorem k_4_0 : Ok M4 0 (oLI 1 1) := r_iload_n (j := 1) (by decide +kernel) rfl
theorem k_4_1 : Ok M4 1 (oS (gKo (.int 6)) 3) := r_bipush (n := 6) (by decide +kernel) (by decide +kernel)
theorem k_4_3 : Ok M4 3 (oS (gI2 f_imul) 4) := r_imul (by decide +kernel)
theorem k_4_4 : Ok M4 4 (oLI 2 5) := r_iload_n (j := 2) (by decide +kernel) rfl
theorem k_4_5 : Ok M4 5 (oS (gI2 f_iadd) 6) := r_iadd (by decide +kernel)
theorem k_4_6 : Ok M4 6 (oSI 4 5 8) := r_istore (by decide +kernel)
theorem k_4_8 : Ok M4 8 (oLI 4 10) := r_iload (by decide +kernel)
theorem k_4_10 : Ok M4 10 (oB1 b_if_lt q_lt 31 13) := r_if_lt (off := 21) (by decide +kernel) (by decide +kernel)
theorem k_4_13 : Ok M4 13 (oLI 4 15) := r_iload (by decide +kernel)
theorem k_4_15 : Ok M4 15 (oLA 0 16) := r_aload_n (j := 0) (by decide +kernel) rfl
theorem k_4_16 : Ok M4 16 (oGe 0 4 19) := r_get (idx := 18) (by decide +kernel) cd_0 4 (by decide) w_143 rfl
theorem k_4_19 : Ok M4 19 (oAn 20) := r_alen (by decide +kernel)
theorem k_4_20 : Ok M4 20 (oB2 b_icmp_ge q_ge 31 23) := r_icmp_ge (off := 11) (by decide +kernel) (by decide +kernel)
theorem k_4_23 : Ok M4 23 (oLA 0 24) := r_aload_n (j := 0) (by decide +kernel) rfl
theorem k_4_24 : Ok M4 24 (oGe 0 4 27) := r_get (idx := 18) (by decide +kernel) cd_0 4 (by decide) w_143 rfl
theorem k_4_27 : Ok M4 27 (oLI 4 29) := r_iload (by decide +kernel)
theorem k_4_29 : Ok M4 29 (oLI 3 30) := r_iload_n (j := 3) (by decide +kernel) rfl
theorem k_4_30 : Ok M4 30 (oAT 31) := r_iastore (by decide +kernel)
theorem k_4_31 : Ok M4 31 (oRV) := r_return rfl (by decide +kernel)
def B4_0 : List (Nat × aO) := [(0, oLI 1 1), (1, oS (gKo (.int 6)) 3), (3, oS (gI2 f_imul) 4), (4, oLI 2 5), (5, oS (gI2 f_iadd) 6), (6, oSI 4 5 8), (8, oLI 4 10), (10, oB1 b_if_lt q_lt 31 13)]
theorem B4_0_ok : ∀ q ∈ B4_0, Ok M4 q.1 q.2 := List.forall_mem_cons.mpr ⟨k_4_0, List.forall_mem_cons.mpr ⟨k_4_1, List.forall_mem_cons.mpr ⟨k_4_3, List.forall_mem_cons.mpr ⟨k_4_4, List.forall_mem_cons.mpr ⟨k_4_5, List.forall_mem_cons.mpr ⟨k_4_6, List.forall_mem_cons.mpr ⟨k_4_8, List.forall_mem_cons.mpr ⟨k_4_10, fun _ h => absurd h List.not_mem_nil⟩⟩⟩⟩⟩⟩⟩⟩
def B4_1 : List (Nat × aO) := [(13, oLI 4 15), (15, oLA 0 16), (16, oGe 0 4 19), (19, oAn 20), (20, oB2 b_icmp_ge q_ge 31 23), (23, oLA 0 24), (24, oGe 0 4 27), (27, oLI 4 29)]
theorem B4_1_ok : ∀ q ∈ B4_1, Ok M4 q.1 q.2 := List.forall_mem_cons.mpr ⟨k_4_13, List.forall_mem_cons.mpr ⟨k_4_15, List.forall_mem_cons.mpr ⟨k_4_16, List.forall_mem_cons.mpr ⟨k_4_19, List.forall_mem_cons.mpr ⟨k_4_20, List.forall_mem_cons.mpr ⟨k_4_23, List.forall_mem_cons.mpr ⟨k_4_24, List.forall_mem_cons.mpr ⟨k_4_27, fun _ h => absurd h List.not_mem_nil⟩⟩⟩⟩⟩⟩⟩⟩
def B4_2 : List (Nat × aO) := [(29, oLI 3 30), (30, oAT 31), (31, oRV)]
theorem B4_2_ok : ∀ q ∈ B4_2, Ok M4 q.1 q.2 := List.forall_mem_cons.mpr ⟨k_4_29, List.forall_mem_cons.mpr ⟨k_4_30, List.forall_mem_cons.mpr ⟨k_4_31, fun _ h => absurd h List.not_mem_nil⟩⟩⟩
def P4 : List (Nat × List (Nat × aO)) := [(10, B4_0), (27, B4_1), (31, B4_2)]
theorem P4_ok : ∀ b ∈ P4, ∀ q ∈ b.2, Ok M4 q.1 q.2 := List.forall_mem_cons.mpr ⟨B4_0_ok, List.forall_mem_cons.mpr ⟨B4_1_ok, List.forall_mem_cons.mpr ⟨B4_2_ok, fun _ h => absurd h List.not_mem_nil⟩⟩⟩
theorem k_5_0 : Ok M5 0 (oLA 0 1) := r_aload_n (j := 0) (by decide +kernel) rfl
theorem k_5_1 : Ok M5 1 (oGe 0 2 4) := r_get (idx := 46) (by decide +kernel) cd_0 2 (by decide) w_136 rfl
theorem k_5_4 : Ok M5 4 (oB1 b_if_ne q_ne 11 7) := r_if_ne (off := 7) (by decide +kernel) (by decide +kernel)
theorem k_5_7 : Ok M5 7 (oS (gKo (.int 0)) 8) := r_iconst (n := 0) (by decide +kernel) (by decide +kernel)
theorem k_5_8 : Ok M5 8 (oGo 15) := r_goto (off := 7) (by decide +kernel) (by decide +kernel)
theorem k_5_11 : Ok M5 11 (oLA 0 12) := r_aload_n (j := 0) (by decide +kernel) rfl
theorem k_5_12 : Ok M5 12 (oGe 0 0 15) := r_get (idx := 43) (by decide +kernel) cd_0 0 (by decide) w_130 rfl
theorem k_5_15 : Ok M5 15 (oRI) := r_ireturn rfl (by decide +kernel)
def B5_0 : List (Nat × aO) := [(0, oLA 0 1), (1, oGe 0 2 4), (4, oB1 b_if_ne q_ne 11 7), (7, oS (gKo (.int 0)) 8), (8, oGo 15), (11, oLA 0 12), (12, oGe 0 0 15), (15, oRI)]
theorem B5_0_ok : ∀ q ∈ B5_0, Ok M5 q.1 q.2 := List.forall_mem_cons.mpr ⟨k_5_0, List.forall_mem_cons.mpr ⟨k_5_1, List.forall_mem_cons.mpr ⟨k_5_4, List.forall_mem_cons.mpr ⟨k_5_7, List.forall_mem_cons.mpr ⟨k_5_8, List.forall_mem_cons.mpr ⟨k_5_11, List.forall_mem_cons.mpr ⟨k_5_12, List.forall_mem_cons.mpr ⟨k_5_15, fun _ h => absurd h List.not_mem_nil⟩⟩⟩⟩⟩⟩⟩⟩
def P5 : List (Nat × List (Nat × aO)) := [(15, B5_0)]
theorem P5_ok : ∀ b ∈ P5, ∀ q ∈ b.2, Ok M5 q.1 q.2 := List.forall_mem_cons.mpr ⟨B5_0_ok, fun _ h => absurd h List.not_mem_nil⟩
theorem k_6_0 : Ok M6 0 (oLI 1 1) := r_iload_n (j := 1) (by decide +kernel) rfl
theorem k_6_1 : Ok M6 1 (oB1 b_if_lt q_lt 19 4) := r_if_lt (off := 18) (by decide +kernel) (by decide +kernel)
theorem k_6_4 : Ok M6 4 (oLI 1 5) := r_iload_n (j := 1) (by decide +kernel) rfl
theorem k_6_5 : Ok M6 5 (oS (gKo (.int 6)) 7) := r_bipush (n := 6) (by decide +kernel) (by decide +kernel)
theorem k_6_7 : Ok M6 7 (oB2 b_icmp_ge q_ge 19 10) := r_icmp_ge (off := 12) (by decide +kernel) (by decide +kernel)
theorem k_6_10 : Ok M6 10 (oLA 0 11) := r_aload_n (j := 0) (by decide +kernel) rfl
theorem k_6_11 : Ok M6 11 (oGe 0 8 14) := r_get (idx := 21) (by decide +kernel) cd_0 8 (by decide) w_150 rfl
theorem k_6_14 : Ok M6 14 (oLI 1 15) := r_iload_n (j := 1) (by decide +kernel) rfl
theorem k_6_15 : Ok M6 15 (oAI 16) := r_iaload (by decide +kernel)
theorem k_6_16 : Ok M6 16 (oGo 20) := r_goto (off := 4) (by decide +kernel) (by decide +kernel)
theorem k_6_19 : Ok M6 19 (oS (gKo (.int (-1))) 20) := r_iconst (n := (-1)) (by decide +kernel) (by decide +kernel)
theorem k_6_20 : Ok M6 20 (oRI) := r_ireturn rfl (by decide +kernel)
def B6_0 : List (Nat × aO) := [(0, oLI 1 1), (1, oB1 b_if_lt q_lt 19 4), (4, oLI 1 5), (5, oS (gKo (.int 6)) 7), (7, oB2 b_icmp_ge q_ge 19 10), (10, oLA 0 11), (11, oGe 0 8 14), (14, oLI 1 15)]
theorem B6_0_ok : ∀ q ∈ B6_0, Ok M6 q.1 q.2 := List.forall_mem_cons.mpr ⟨k_6_0, List.forall_mem_cons.mpr ⟨k_6_1, List.forall_mem_cons.mpr ⟨k_6_4, List.forall_mem_cons.mpr ⟨k_6_5, List.forall_mem_cons.mpr ⟨k_6_7, List.forall_mem_cons.mpr ⟨k_6_10, List.forall_mem_cons.mpr ⟨k_6_11, List.forall_mem_cons.mpr ⟨k_6_14, fun _ h => absurd h List.not_mem_nil⟩⟩⟩⟩⟩⟩⟩⟩
def B6_1 : List (Nat × aO) := [(15, oAI 16), (16, oGo 20), (19, oS (gKo (.int (-1))) 20), (20, oRI)]
theorem B6_1_ok : ∀ q ∈ B6_1, Ok M6 q.1 q.2 := List.forall_mem_cons.mpr ⟨k_6_15, List.forall_mem_cons.mpr ⟨k_6_16, List.forall_mem_cons.mpr ⟨k_6_19, List.forall_mem_cons.mpr ⟨k_6_20, fun _ h => absurd h List.not_mem_nil⟩⟩⟩⟩
def P6 : List (Nat × List (Nat × aO)) := [(14, B6_0), (20, B6_1)]
theorem P6_ok : ∀ b ∈ P6, ∀ q ∈ b.2, Ok M6 q.1 q.2 := List.forall_mem_cons.mpr ⟨B6_0_ok, List.forall_mem_cons.mpr ⟨B6_1_ok, fun _ h => absurd h List.not_mem_nil⟩⟩
theorem k_7_0 : Ok M7 0 (oS (gKo (.int 0)) 1) := r_iconst (n := 0) (by decide +kernel) (by decide +kernel)
theorem k_7_1 : Ok M7 1 (oSI 2 4 2) := r_istore_n (j := 2) (by decide +kernel) rfl
theorem k_7_2 : Ok M7 2 (oS (gKo (.int 0)) 3) := r_iconst (n := 0) (by decide +kernel) (by decide +kernel)
theorem k_7_3 : Ok M7 3 (oSI 3 4 4) := r_istore_n (j := 3) (by decide +kernel) rfl
theorem k_7_4 : Ok M7 4 (oLI 3 5) := r_iload_n (j := 3) (by decide +kernel) rfl
theorem k_7_5 : Ok M7 5 (oLA 0 6) := r_aload_n (j := 0) (by decide +kernel) rfl
theorem k_7_6 : Ok M7 6 (oGe 0 12 9) := r_get (idx := 49) (by decide +kernel) cd_0 12 (by decide) w_157 rfl
theorem k_7_9 : Ok M7 9 (oB2 b_icmp_ge q_ge 30 12) := r_icmp_ge (off := 21) (by decide +kernel) (by decide +kernel)
theorem k_7_12 : Ok M7 12 (oLA 0 13) := r_aload_n (j := 0) (by decide +kernel) rfl
theorem k_7_13 : Ok M7 13 (oLI 3 14) := r_iload_n (j := 3) (by decide +kernel) rfl
theorem k_7_14 : Ok M7 14 (oCV 0 6 1) := r_callV (idx := 52) (by decide +kernel) w_453 cv_6
theorem k_7_17 : Ok M7 17 (oLI 1 18) := r_iload_n (j := 1) (by decide +kernel) rfl
theorem k_7_18 : Ok M7 18 (oB2 b_icmp_ne q_ne 24 21) := r_icmp_ne (off := 6) (by decide +kernel) (by decide +kernel)
theorem k_7_21 : Ok M7 21 (oInc 2 1 4 24) := r_iinc (n := 1) (by decide +kernel) (by decide +kernel)
theorem k_7_24 : Ok M7 24 (oInc 3 1 4 27) := r_iinc (n := 1) (by decide +kernel) (by decide +kernel)
theorem k_7_27 : Ok M7 27 (oGo 4) := r_goto (off := (-23)) (by decide +kernel) (by decide +kernel)
theorem k_7_30 : Ok M7 30 (oLI 2 31) := r_iload_n (j := 2) (by decide +kernel) rfl
theorem k_7_31 : Ok M7 31 (oRI) := r_ireturn rfl (by decide +kernel)
def B7_0 : List (Nat × aO) := [(0, oS (gKo (.int 0)) 1), (1, oSI 2 4 2), (2, oS (gKo (.int 0)) 3), (3, oSI 3 4 4), (4, oLI 3 5), (5, oLA 0 6), (6, oGe 0 12 9), (9, oB2 b_icmp_ge q_ge 30 12)]
theorem B7_0_ok : ∀ q ∈ B7_0, Ok M7 q.1 q.2 := List.forall_mem_cons.mpr ⟨k_7_0, List.forall_mem_cons.mpr ⟨k_7_1, List.forall_mem_cons.mpr ⟨k_7_2, List.forall_mem_cons.mpr ⟨k_7_3, List.forall_mem_cons.mpr ⟨k_7_4, List.forall_mem_cons.mpr ⟨k_7_5, List.forall_mem_cons.mpr ⟨k_7_6, List.forall_mem_cons.mpr ⟨k_7_9, fun _ h => absurd h List.not_mem_nil⟩⟩⟩⟩⟩⟩⟩⟩
def B7_1 : List (Nat × aO) := [(12, oLA 0 13), (13, oLI 3 14), (14, oCV 0 6 1), (17, oLI 1 18), (18, oB2 b_icmp_ne q_ne 24 21), (21, oInc 2 1 4 24), (24, oInc 3 1 4 27), (27, oGo 4)]
theorem B7_1_ok : ∀ q ∈ B7_1, Ok M7 q.1 q.2 := List.forall_mem_cons.mpr ⟨k_7_12, List.forall_mem_cons.mpr ⟨k_7_13, List.forall_mem_cons.mpr ⟨k_7_14, List.forall_mem_cons.mpr ⟨k_7_17, List.forall_mem_cons.mpr ⟨k_7_18, List.forall_mem_cons.mpr ⟨k_7_21, List.forall_mem_cons.mpr ⟨k_7_24, List.forall_mem_cons.mpr ⟨k_7_27, fun _ h => absurd h List.not_mem_nil⟩⟩⟩⟩⟩⟩⟩⟩
def B7_2 : List (Nat × aO) := [(30, oLI 2 31), (31, oRI)]
theorem B7_2_ok : ∀ q ∈ B7_2, Ok M7 q.1 q.2 := List.forall_mem_cons.mpr ⟨k_7_30, List.forall_mem_cons.mpr ⟨k_7_31, fun _ h => absurd h List.not_mem_nil⟩⟩
def P7 : List (Nat × List (Nat × aO)) := [(9, B7_0), (27, B7_1), (31, B7_2)]
theorem P7_ok : ∀ b ∈ P7, ∀ q ∈ b.2, Ok M7 q.1 q.2 := List.forall_mem_cons.mpr ⟨B7_0_ok, List.forall_mem_cons.mpr ⟨B7_1_ok, List.forall_mem_cons.mpr ⟨B7_2_ok, fun _ h => absurd h List.not_mem_nil⟩⟩⟩
theorem k_8_0 : Ok M8 0 (oS (gKo (.int 0)) 1) := r_iconst (n := 0) (by decide +kernel) (by decide +kernel)
theorem k_8_1 : Ok M8 1 (oSI 2 4 2) := r_istore_n (j := 2) (by decide +kernel) rfl
theorem k_8_2 : Ok M8 2 (oS (gKo (.int 0)) 3) := r_iconst (n := 0) (by decide +kernel) (by decide +kernel)
theorem k_8_3 : Ok M8 3 (oSI 3 4 4) := r_istore_n (j := 3) (by decide +kernel) rfl
theorem k_8_4 : Ok M8 4 (oLI 3 5) := r_iload_n (j := 3) (by decide +kernel) rfl
theorem k_8_5 : Ok M8 5 (oLA 0 6) := r_aload_n (j := 0) (by decide +kernel) rfl
theorem k_8_6 : Ok M8 6 (oGe 0 0 9) := r_get (idx := 43) (by decide +kernel) cd_0 0 (by decide) w_130 rfl
theorem k_8_9 : Ok M8 9 (oB2 b_icmp_ge q_ge 37 12) := r_icmp_ge (off := 28) (by decide +kernel) (by decide +kernel)
theorem k_8_12 : Ok M8 12 (oLA 0 13) := r_aload_n (j := 0) (by decide +kernel) rfl
theorem k_8_13 : Ok M8 13 (oGe 0 13 16) := r_get (idx := 33) (by decide +kernel) cd_0 13 (by decide) w_159 rfl
theorem k_8_16 : Ok M8 16 (oLI 3 17) := r_iload_n (j := 3) (by decide +kernel) rfl
theorem k_8_17 : Ok M8 17 (oAI 18) := r_iaload (by decide +kernel)
theorem k_8_18 : Ok M8 18 (oLI 1 19) := r_iload_n (j := 1) (by decide +kernel) rfl
theorem k_8_19 : Ok M8 19 (oB2 b_icmp_ne q_ne 31 22) := r_icmp_ne (off := 12) (by decide +kernel) (by decide +kernel)
theorem k_8_22 : Ok M8 22 (oLI 2 23) := r_iload_n (j := 2) (by decide +kernel) rfl
theorem k_8_23 : Ok M8 23 (oLA 0 24) := r_aload_n (j := 0) (by decide +kernel) rfl
theorem k_8_24 : Ok M8 24 (oLI 1 25) := r_iload_n (j := 1) (by decide +kernel) rfl
theorem k_8_25 : Ok M8 25 (oLI 3 26) := r_iload_n (j := 3) (by decide +kernel) rfl
theorem k_8_26 : Ok M8 26 (oCV 0 3 2) := r_callV (idx := 56) (by decide +kernel) w_445 cv_3
theorem k_8_29 : Ok M8 29 (oS (gI2 f_iadd) 30) := r_iadd (by decide +kernel)
theorem k_8_30 : Ok M8 30 (oSI 2 4 31) := r_istore_n (j := 2) (by decide +kernel) rfl
theorem k_8_31 : Ok M8 31 (oInc 3 1 4 34) := r_iinc (n := 1) (by decide +kernel) (by decide +kernel)
theorem k_8_34 : Ok M8 34 (oGo 4) := r_goto (off := (-30)) (by decide +kernel) (by decide +kernel)
theorem k_8_37 : Ok M8 37 (oLI 2 38) := r_iload_n (j := 2) (by decide +kernel) rfl
theorem k_8_38 : Ok M8 38 (oRI) := r_ireturn rfl (by decide +kernel)
def B8_0 : List (Nat × aO) := [(0, oS (gKo (.int 0)) 1), (1, oSI 2 4 2), (2, oS (gKo (.int 0)) 3), (3, oSI 3 4 4), (4, oLI 3 5), (5, oLA 0 6), (6, oGe 0 0 9), (9, oB2 b_icmp_ge q_ge 37 12)]
theorem B8_0_ok : ∀ q ∈ B8_0, Ok M8 q.1 q.2 := List.forall_mem_cons.mpr ⟨k_8_0, List.forall_mem_cons.mpr ⟨k_8_1, List.forall_mem_cons.mpr ⟨k_8_2, List.forall_mem_cons.mpr ⟨k_8_3, List.forall_mem_cons.mpr ⟨k_8_4, List.forall_mem_cons.mpr ⟨k_8_5, List.forall_mem_cons.mpr ⟨k_8_6, List.forall_mem_cons.mpr ⟨k_8_9, fun _ h => absurd h List.not_mem_nil⟩⟩⟩⟩⟩⟩⟩⟩
def B8_1 : List (Nat × aO) := [(12, oLA 0 13), (13, oGe 0 13 16), (16, oLI 3 17), (17, oAI 18), (18, oLI 1 19), (19, oB2 b_icmp_ne q_ne 31 22), (22, oLI 2 23), (23, oLA 0 24)]
theorem B8_1_ok : ∀ q ∈ B8_1, Ok M8 q.1 q.2 := List.forall_mem_cons.mpr ⟨k_8_12, List.forall_mem_cons.mpr ⟨k_8_13, List.forall_mem_cons.mpr ⟨k_8_16, List.forall_mem_cons.mpr ⟨k_8_17, List.forall_mem_cons.mpr ⟨k_8_18, List.forall_mem_cons.mpr ⟨k_8_19, List.forall_mem_cons.mpr ⟨k_8_22, List.forall_mem_cons.mpr ⟨k_8_23, fun _ h => absurd h List.not_mem_nil⟩⟩⟩⟩⟩⟩⟩⟩
def B8_2 : List (Nat × aO) := [(24, oLI 1 25), (25, oLI 3 26), (26, oCV 0 3 2), (29, oS (gI2 f_iadd) 30), (30, oSI 2 4 31), (31, oInc 3 1 4 34), (34, oGo 4), (37, oLI 2 38)]
theorem B8_2_ok : ∀ q ∈ B8_2, Ok M8 q.1 q.2 := List.forall_mem_cons.mpr ⟨k_8_24, List.forall_mem_cons.mpr ⟨k_8_25, List.forall_mem_cons.mpr ⟨k_8_26, List.forall_mem_cons.mpr ⟨k_8_29, List.forall_mem_cons.mpr ⟨k_8_30, List.forall_mem_cons.mpr ⟨k_8_31, List.forall_mem_cons.mpr ⟨k_8_34, List.forall_mem_cons.mpr ⟨k_8_37, fun _ h => absurd h List.not_mem_nil⟩⟩⟩⟩⟩⟩⟩⟩
def B8_3 : List (Nat × aO) := [(38, oRI)]
theorem B8_3_ok : ∀ q ∈ B8_3, Ok M8 q.1 q.2 := List.forall_mem_cons.mpr ⟨k_8_38, fun _ h => absurd h List.not_mem_nil⟩
def P8 : List (Nat × List (Nat × aO)) := [(9, B8_0), (23, B8_1), (37, B8_2), (38, B8_3)]
theorem P8_ok : ∀ b ∈ P8, ∀ q ∈ b.2, Ok M8 q.1 q.2 := List.forall_mem_cons.mpr ⟨B8_0_ok, List.forall_mem_cons.mpr ⟨B8_1_ok, List.forall_mem_cons.mpr ⟨B8_2_ok, List.forall_mem_cons.mpr ⟨B8_3_ok, fun _ h => absurd h List.not_mem_nil⟩⟩⟩⟩
theorem k_9_0 : Ok M9 0 (oS (gKo (.int 0)) 1) := r_iconst (n := 0) (by decide +kernel) (by decide +kernel)
theorem k_9_1 : Ok M9 1 (oSI 2 4 2) := r_istore_n (j := 2) (by decide +kernel) rfl
theorem k_9_2 : Ok M9 2 (oS (gKo (.int 0)) 3) := r_iconst (n := 0) (by decide +kernel) (by decide +kernel)
theorem k_9_3 : Ok M9 3 (oSI 3 4 4) := r_istore_n (j := 3) (by decide +kernel) rfl
theorem k_9_4 : Ok M9 4 (oLI 3 5) := r_iload_n (j := 3) (by decide +kernel) rfl
theorem k_9_5 : Ok M9 5 (oLA 0 6) := r_aload_n (j := 0) (by decide +kernel) rfl
theorem k_9_6 : Ok M9 6 (oGe 0 0 9) := r_get (idx := 43) (by decide +kernel) cd_0 0 (by decide) w_130 rfl
theorem k_9_9 : Ok M9 9 (oB2 b_icmp_ge q_ge 27 12) := r_icmp_ge (off := 18) (by decide +kernel) (by decide +kernel)
theorem k_9_12 : Ok M9 12 (oLI 2 13) := r_iload_n (j := 2) (by decide +kernel) rfl
theorem k_9_13 : Ok M9 13 (oLA 0 14) := r_aload_n (j := 0) (by decide +kernel) rfl
theorem k_9_14 : Ok M9 14 (oLI 1 15) := r_iload_n (j := 1) (by decide +kernel) rfl
theorem k_9_15 : Ok M9 15 (oLI 3 16) := r_iload_n (j := 3) (by decide +kernel) rfl
theorem k_9_16 : Ok M9 16 (oCV 0 3 2) := r_callV (idx := 56) (by decide +kernel) w_445 cv_3
theorem k_9_19 : Ok M9 19 (oS (gI2 f_iadd) 20) := r_iadd (by decide +kernel)
theorem k_9_20 : Ok M9 20 (oSI 2 4 21) := r_istore_n (j := 2) (by decide +kernel) rfl
theorem k_9_21 : Ok M9 21 (oInc 3 1 4 24) := r_iinc (n := 1) (by decide +kernel) (by decide +kernel)
theorem k_9_24 : Ok M9 24 (oGo 4) := r_goto (off := (-20)) (by decide +kernel) (by decide +kernel)
theorem k_9_27 : Ok M9 27 (oLI 2 28) := r_iload_n (j := 2) (by decide +kernel) rfl
theorem k_9_28 : Ok M9 28 (oRI) := r_ireturn rfl (by decide +kernel)
def B9_0 : List (Nat × aO) := [(0, oS (gKo (.int 0)) 1), (1, oSI 2 4 2), (2, oS (gKo (.int 0)) 3), (3, oSI 3 4 4), (4, oLI 3 5), (5, oLA 0 6), (6, oGe 0 0 9), (9, oB2 b_icmp_ge q_ge 27 12)]
theorem B9_0_ok : ∀ q ∈ B9_0, Ok M9 q.1 q.2 := List.forall_mem_cons.mpr ⟨k_9_0, List.forall_mem_cons.mpr ⟨k_9_1, List.forall_mem_cons.mpr ⟨k_9_2, List.forall_mem_cons.mpr ⟨k_9_3, List.forall_mem_cons.mpr ⟨k_9_4, List.forall_mem_cons.mpr ⟨k_9_5, List.forall_mem_cons.mpr ⟨k_9_6, List.forall_mem_cons.mpr ⟨k_9_9, fun _ h => absurd h List.not_mem_nil⟩⟩⟩⟩⟩⟩⟩⟩
def B9_1 : List (Nat × aO) := [(12, oLI 2 13), (13, oLA 0 14), (14, oLI 1 15), (15, oLI 3 16), (16, oCV 0 3 2), (19, oS (gI2 f_iadd) 20), (20, oSI 2 4 21), (21, oInc 3 1 4 24)]
theorem B9_1_ok : ∀ q ∈ B9_1, Ok M9 q.1 q.2 := List.forall_mem_cons.mpr ⟨k_9_12, List.forall_mem_cons.mpr ⟨k_9_13, List.forall_mem_cons.mpr ⟨k_9_14, List.forall_mem_cons.mpr ⟨k_9_15, List.forall_mem_cons.mpr ⟨k_9_16, List.forall_mem_cons.mpr ⟨k_9_19, List.forall_mem_cons.mpr ⟨k_9_20, List.forall_mem_cons.mpr ⟨k_9_21, fun _ h => absurd h List.not_mem_nil⟩⟩⟩⟩⟩⟩⟩⟩
def B9_2 : List (Nat × aO) := [(24, oGo 4), (27, oLI 2 28), (28, oRI)]
theorem B9_2_ok : ∀ q ∈ B9_2, Ok M9 q.1 q.2 := List.forall_mem_cons.mpr ⟨k_9_24, List.forall_mem_cons.mpr ⟨k_9_27, List.forall_mem_cons.mpr ⟨k_9_28, fun _ h => absurd h List.not_mem_nil⟩⟩⟩
def P9 : List (Nat × List (Nat × aO)) := [(9, B9_0), (21, B9_1), (28, B9_2)]
theorem P9_ok : ∀ b ∈ P9, ∀ q ∈ b.2, Ok M9 q.1 q.2 := List.forall_mem_cons.mpr ⟨B9_0_ok, List.forall_mem_cons.mpr ⟨B9_1_ok, List.forall_mem_cons.mpr ⟨B9_2_ok, fun _ h => absurd h List.not_mem_nil⟩⟩⟩
theorem k_10_0 : Ok M10 0 (oS (gKo (.int 0)) 1) := r_iconst (n := 0) (by decide +kernel) (by decide +kernel)
theorem k_10_1 : Ok M10 1 (oSI 1 3 2) := r_istore_n (j := 1) (by decide +kernel) rfl
theorem k_10_2 : Ok M10 2 (oS (gKo (.int 0)) 3) := r_iconst (n := 0) (by decide +kernel) (by decide +kernel)
theorem k_10_3 : Ok M10 3 (oSI 2 3 4) := r_istore_n (j := 2) (by decide +kernel) rfl
theorem k_10_4 : Ok M10 4 (oLI 2 5) := r_iload_n (j := 2) (by decide +kernel) rfl
theorem k_10_5 : Ok M10 5 (oLA 0 6) := r_aload_n (j := 0) (by decide +kernel) rfl
theorem k_10_6 : Ok M10 6 (oGe 0 0 9) := r_get (idx := 43) (by decide +kernel) cd_0 0 (by decide) w_130 rfl
theorem k_10_9 : Ok M10 9 (oB2 b_icmp_ge q_ge 27 12) := r_icmp_ge (off := 18) (by decide +kernel) (by decide +kernel)
theorem k_10_12 : Ok M10 12 (oLI 1 13) := r_iload_n (j := 1) (by decide +kernel) rfl
theorem k_10_13 : Ok M10 13 (oLA 0 14) := r_aload_n (j := 0) (by decide +kernel) rfl
theorem k_10_14 : Ok M10 14 (oGe 0 1 17) := r_get (idx := 9) (by decide +kernel) cd_0 1 (by decide) w_134 rfl
theorem k_10_17 : Ok M10 17 (oLI 2 18) := r_iload_n (j := 2) (by decide +kernel) rfl
theorem k_10_18 : Ok M10 18 (oAI 19) := r_iaload (by decide +kernel)
theorem k_10_19 : Ok M10 19 (oS (gI2 f_ior) 20) := r_ior (by decide +kernel)
theorem k_10_20 : Ok M10 20 (oSI 1 3 21) := r_istore_n (j := 1) (by decide +kernel) rfl
theorem k_10_21 : Ok M10 21 (oInc 2 1 3 24) := r_iinc (n := 1) (by decide +kernel) (by decide +kernel)
theorem k_10_24 : Ok M10 24 (oGo 4) := r_goto (off := (-20)) (by decide +kernel) (by decide +kernel)
theorem k_10_27 : Ok M10 27 (oLI 1 28) := r_iload_n (j := 1) (by decide +kernel) rfl
theorem k_10_28 : Ok M10 28 (oRI) := r_ireturn rfl (by decide +kernel)
def B10_0 : List (Nat × aO) := [(0, oS (gKo (.int 0)) 1), (1, oSI 1 3 2), (2, oS (gKo (.int 0)) 3), (3, oSI 2 3 4), (4, oLI 2 5), (5, oLA 0 6), (6, oGe 0 0 9), (9, oB2 b_icmp_ge q_ge 27 12)]
theorem B10_0_ok : ∀ q ∈ B10_0, Ok M10 q.1 q.2 := List.forall_mem_cons.mpr ⟨k_10_0, List.forall_mem_cons.mpr ⟨k_10_1, List.forall_mem_cons.mpr ⟨k_10_2, List.forall_mem_cons.mpr ⟨k_10_3, List.forall_mem_cons.mpr ⟨k_10_4, List.forall_mem_cons.mpr ⟨k_10_5, List.forall_mem_cons.mpr ⟨k_10_6, List.forall_mem_cons.mpr ⟨k_10_9, fun _ h => absurd h List.not_mem_nil⟩⟩⟩⟩⟩⟩⟩⟩
def B10_1 : List (Nat × aO) := [(12, oLI 1 13), (13, oLA 0 14), (14, oGe 0 1 17), (17, oLI 2 18), (18, oAI 19), (19, oS (gI2 f_ior) 20), (20, oSI 1 3 21), (21, oInc 2 1 3 24)]
theorem B10_1_ok : ∀ q ∈ B10_1, Ok M10 q.1 q.2 := List.forall_mem_cons.mpr ⟨k_10_12, List.forall_mem_cons.mpr ⟨k_10_13, List.forall_mem_cons.mpr ⟨k_10_14, List.forall_mem_cons.mpr ⟨k_10_17, List.forall_mem_cons.mpr ⟨k_10_18, List.forall_mem_cons.mpr ⟨k_10_19, List.forall_mem_cons.mpr ⟨k_10_20, List.forall_mem_cons.mpr ⟨k_10_21, fun _ h => absurd h List.not_mem_nil⟩⟩⟩⟩⟩⟩⟩⟩
def B10_2 : List (Nat × aO) := [(24, oGo 4), (27, oLI 1 28), (28, oRI)]
theorem B10_2_ok : ∀ q ∈ B10_2, Ok M10 q.1 q.2 := List.forall_mem_cons.mpr ⟨k_10_24, List.forall_mem_cons.mpr ⟨k_10_27, List.forall_mem_cons.mpr ⟨k_10_28, fun _ h => absurd h List.not_mem_nil⟩⟩⟩
def P10 : List (Nat × List (Nat × aO)) := [(9, B10_0), (21, B10_1), (28, B10_2)]
theorem P10_ok : ∀ b ∈ P10, ∀ q ∈ b.2, Ok M10 q.1 q.2 := List.forall_mem_cons.mpr ⟨B10_0_ok, List.forall_mem_cons.mpr ⟨B10_1_ok, List.forall_mem_cons.mpr ⟨B10_2_ok, fun _ h => absurd h List.not_mem_nil⟩⟩⟩
theorem k_11_0 : Ok M11 0 (oS (gKo (.int 0)) 1) := r_iconst (n := 0) (by decide +kernel) (by decide +kernel)
theorem k_11_1 : Ok M11 1 (oSI 1 3 2) := r_istore_n (j := 1) (by decide +kernel) rfl
theorem k_11_2 : Ok M11 2 (oS (gKo (.int 0)) 3) := r_iconst (n := 0) (by decide +kernel) (by decide +kernel)
theorem k_11_3 : Ok M11 3 (oSI 2 3 4) := r_istore_n (j := 2) (by decide +kernel) rfl
theorem k_11_4 : Ok M11 4 (oLI 2 5) := r_iload_n (j := 2) (by decide +kernel) rfl
theorem k_11_5 : Ok M11 5 (oLA 0 6) := r_aload_n (j := 0) (by decide +kernel) rfl
theorem k_11_6 : Ok M11 6 (oGe 0 0 9) := r_get (idx := 43) (by decide +kernel) cd_0 0 (by decide) w_130 rfl
theorem k_11_9 : Ok M11 9 (oB2 b_icmp_ge q_ge 34 12) := r_icmp_ge (off := 25) (by decide +kernel) (by decide +kernel)
theorem k_11_12 : Ok M11 12 (oLA 0 13) := r_aload_n (j := 0) (by decide +kernel) rfl
theorem k_11_13 : Ok M11 13 (oGe 0 13 16) := r_get (idx := 33) (by decide +kernel) cd_0 13 (by decide) w_159 rfl
theorem k_11_16 : Ok M11 16 (oLI 2 17) := r_iload_n (j := 2) (by decide +kernel) rfl
theorem k_11_17 : Ok M11 17 (oAI 18) := r_iaload (by decide +kernel)
theorem k_11_18 : Ok M11 18 (oS (gKo (.int (-1))) 19) := r_iconst (n := (-1)) (by decide +kernel) (by decide +kernel)
theorem k_11_19 : Ok M11 19 (oB2 b_icmp_ne q_ne 28 22) := r_icmp_ne (off := 9) (by decide +kernel) (by decide +kernel)
theorem k_11_22 : Ok M11 22 (oLI 1 23) := r_iload_n (j := 1) (by decide +kernel) rfl
theorem k_11_23 : Ok M11 23 (oS (gKo (.int 1)) 24) := r_iconst (n := 1) (by decide +kernel) (by decide +kernel)
theorem k_11_24 : Ok M11 24 (oLI 2 25) := r_iload_n (j := 2) (by decide +kernel) rfl
theorem k_11_25 : Ok M11 25 (oS (gI2 f_ishl) 26) := r_ishl (by decide +kernel)
theorem k_11_26 : Ok M11 26 (oS (gI2 f_ior) 27) := r_ior (by decide +kernel)
theorem k_11_27 : Ok M11 27 (oSI 1 3 28) := r_istore_n (j := 1) (by decide +kernel) rfl
theorem k_11_28 : Ok M11 28 (oInc 2 1 3 31) := r_iinc (n := 1) (by decide +kernel) (by decide +kernel)
theorem k_11_31 : Ok M11 31 (oGo 4) := r_goto (off := (-27)) (by decide +kernel) (by decide +kernel)
theorem k_11_34 : Ok M11 34 (oLI 1 35) := r_iload_n (j := 1) (by decide +kernel) rfl
theorem k_11_35 : Ok M11 35 (oRI) := r_ireturn rfl (by decide +kernel)
def B11_0 : List (Nat × aO) := [(0, oS (gKo (.int 0)) 1), (1, oSI 1 3 2), (2, oS (gKo (.int 0)) 3), (3, oSI 2 3 4), (4, oLI 2 5), (5, oLA 0 6), (6, oGe 0 0 9), (9, oB2 b_icmp_ge q_ge 34 12)]
theorem B11_0_ok : ∀ q ∈ B11_0, Ok M11 q.1 q.2 := List.forall_mem_cons.mpr ⟨k_11_0, List.forall_mem_cons.mpr ⟨k_11_1, List.forall_mem_cons.mpr ⟨k_11_2, List.forall_mem_cons.mpr ⟨k_11_3, List.forall_mem_cons.mpr ⟨k_11_4, List.forall_mem_cons.mpr ⟨k_11_5, List.forall_mem_cons.mpr ⟨k_11_6, List.forall_mem_cons.mpr ⟨k_11_9, fun _ h => absurd h List.not_mem_nil⟩⟩⟩⟩⟩⟩⟩⟩
def B11_1 : List (Nat × aO) := [(12, oLA 0 13), (13, oGe 0 13 16), (16, oLI 2 17), (17, oAI 18), (18, oS (gKo (.int (-1))) 19), (19, oB2 b_icmp_ne q_ne 28 22), (22, oLI 1 23), (23, oS (gKo (.int 1)) 24)]
theorem B11_1_ok : ∀ q ∈ B11_1, Ok M11 q.1 q.2 := List.forall_mem_cons.mpr ⟨k_11_12, List.forall_mem_cons.mpr ⟨k_11_13, List.forall_mem_cons.mpr ⟨k_11_16, List.forall_mem_cons.mpr ⟨k_11_17, List.forall_mem_cons.mpr ⟨k_11_18, List.forall_mem_cons.mpr ⟨k_11_19, List.forall_mem_cons.mpr ⟨k_11_22, List.forall_mem_cons.mpr ⟨k_11_23, fun _ h => absurd h List.not_mem_nil⟩⟩⟩⟩⟩⟩⟩⟩
def B11_2 : List (Nat × aO) := [(24, oLI 2 25), (25, oS (gI2 f_ishl) 26), (26, oS (gI2 f_ior) 27), (27, oSI 1 3 28), (28, oInc 2 1 3 31), (31, oGo 4), (34, oLI 1 35), (35, oRI)]
theorem B11_2_ok : ∀ q ∈ B11_2, Ok M11 q.1 q.2 := List.forall_mem_cons.mpr ⟨k_11_24, List.forall_mem_cons.mpr ⟨k_11_25, List.forall_mem_cons.mpr ⟨k_11_26, List.forall_mem_cons.mpr ⟨k_11_27, List.forall_mem_cons.mpr ⟨k_11_28, List.forall_mem_cons.mpr ⟨k_11_31, List.forall_mem_cons.mpr ⟨k_11_34, List.forall_mem_cons.mpr ⟨k_11_35, fun _ h => absurd h List.not_mem_nil⟩⟩⟩⟩⟩⟩⟩⟩
def P11 : List (Nat × List (Nat × aO)) := [(9, B11_0), (23, B11_1), (35, B11_2)]
theorem P11_ok : ∀ b ∈ P11, ∀ q ∈ b.2, Ok M11 q.1 q.2 := List.forall_mem_cons.mpr ⟨B11_0_ok, List.forall_mem_cons.mpr ⟨B11_1_ok, List.forall_mem_cons.mpr ⟨B11_2_ok, fun _ h => absurd h List.not_mem_nil⟩⟩⟩
theorem k_12_0 : Ok M12 0 (oLA 0 1) := r_aload_n (j := 0) (by decide +kernel) rfl
theorem k_12_1 : Ok M12 1 (oS (gKo (.int 0)) 2) := r_iconst (n := 0) (by decide +kernel) (by decide +kernel)
theorem k_12_2 : Ok M12 2 (oPI 0 0 5) := r_putI (idx := 43) (by decide +kernel) cd_0 0 (by decide) w_130 rfl rfl (by decide +kernel)
theorem k_12_5 : Ok M12 5 (oLA 0 6) := r_aload_n (j := 0) (by decide +kernel) rfl
theorem k_12_6 : Ok M12 6 (oS (gKo (.int 0)) 7) := r_iconst (n := 0) (by decide +kernel) (by decide +kernel)
theorem k_12_7 : Ok M12 7 (oPI 0 2 10) := r_putI (idx := 46) (by decide +kernel) cd_0 2 (by decide) w_136 rfl rfl (by decide +kernel)
theorem k_12_10 : Ok M12 10 (oLA 0 11) := r_aload_n (j := 0) (by decide +kernel) rfl
theorem k_12_11 : Ok M12 11 (oS (gKo (.int 0)) 12) := r_iconst (n := 0) (by decide +kernel) (by decide +kernel)
theorem k_12_12 : Ok M12 12 (oPI 0 5 15) := r_putI (idx := 60) (by decide +kernel) cd_0 5 (by decide) w_144 rfl rfl (by decide +kernel)
theorem k_12_15 : Ok M12 15 (oLA 0 16) := r_aload_n (j := 0) (by decide +kernel) rfl
theorem k_12_16 : Ok M12 16 (oS (gKo (.int 0)) 17) := r_iconst (n := 0) (by decide +kernel) (by decide +kernel)
theorem k_12_17 : Ok M12 17 (oPI 0 6 20) := r_putI (idx := 63) (by decide +kernel) cd_0 6 (by decide) w_147 rfl rfl (by decide +kernel)
theorem k_12_20 : Ok M12 20 (oRV) := r_return rfl (by decide +kernel)
def B12_0 : List (Nat × aO) := [(0, oLA 0 1), (1, oS (gKo (.int 0)) 2), (2, oPI 0 0 5), (5, oLA 0 6), (6, oS (gKo (.int 0)) 7), (7, oPI 0 2 10), (10, oLA 0 11), (11, oS (gKo (.int 0)) 12)]
theorem B12_0_ok : ∀ q ∈ B12_0, Ok M12 q.1 q.2 := List.forall_mem_cons.mpr ⟨k_12_0, List.forall_mem_cons.mpr ⟨k_12_1, List.forall_mem_cons.mpr ⟨k_12_2, List.forall_mem_cons.mpr ⟨k_12_5, List.forall_mem_cons.mpr ⟨k_12_6, List.forall_mem_cons.mpr ⟨k_12_7, List.forall_mem_cons.mpr ⟨k_12_10, List.forall_mem_cons.mpr ⟨k_12_11, fun _ h => absurd h List.not_mem_nil⟩⟩⟩⟩⟩⟩⟩⟩
def B12_1 : List (Nat × aO) := [(12, oPI 0 5 15), (15, oLA 0 16), (16, oS (gKo (.int 0)) 17), (17, oPI 0 6 20), (20, oRV)]
theorem B12_1_ok : ∀ q ∈ B12_1, Ok M12 q.1 q.2 := List.forall_mem_cons.mpr ⟨k_12_12, List.forall_mem_cons.mpr ⟨k_12_15, List.forall_mem_cons.mpr ⟨k_12_16, List.forall_mem_cons.mpr ⟨k_12_17, List.forall_mem_cons.mpr ⟨k_12_20, fun _ h => absurd h List.not_mem_nil⟩⟩⟩⟩⟩
def P12 : List (Nat × List (Nat × aO)) := [(11, B12_0), (20, B12_1)]
theorem P12_ok : ∀ b ∈ P12, ∀ q ∈ b.2, Ok M12 q.1 q.2 := List.forall_mem_cons.mpr ⟨B12_0_ok, List.forall_mem_cons.mpr ⟨B12_1_ok, fun _ h => absurd h List.not_mem_nil⟩⟩
theorem k_13_0 : Ok M13 0 (oLA 0 1) := r_aload_n (j := 0) (by decide +kernel) rfl
theorem k_13_1 : Ok M13 1 (oGe 0 0 4) := r_get (idx := 43) (by decide +kernel) cd_0 0 (by decide) w_130 rfl
theorem k_13_4 : Ok M13 4 (oS (gKo (.int 6)) 6) := r_bipush (n := 6) (by decide +kernel) (by decide +kernel)
theorem k_13_6 : Ok M13 6 (oB2 b_icmp_ge q_ge 29 9) := r_icmp_ge (off := 23) (by decide +kernel) (by decide +kernel)
theorem k_13_9 : Ok M13 9 (oLA 0 10) := r_aload_n (j := 0) (by decide +kernel) rfl
theorem k_13_10 : Ok M13 10 (oGe 0 1 13) := r_get (idx := 9) (by decide +kernel) cd_0 1 (by decide) w_134 rfl
theorem k_13_13 : Ok M13 13 (oLA 0 14) := r_aload_n (j := 0) (by decide +kernel) rfl
theorem k_13_14 : Ok M13 14 (oGe 0 0 17) := r_get (idx := 43) (by decide +kernel) cd_0 0 (by decide) w_130 rfl
theorem k_13_17 : Ok M13 17 (oLI 1 18) := r_iload_n (j := 1) (by decide +kernel) rfl
theorem k_13_18 : Ok M13 18 (oAT 19) := r_iastore (by decide +kernel)
theorem k_13_19 : Ok M13 19 (oLA 0 20) := r_aload_n (j := 0) (by decide +kernel) rfl
theorem k_13_20 : Ok M13 20 (oS gDu 21) := r_dup (by decide +kernel)
theorem k_13_21 : Ok M13 21 (oGe 0 0 24) := r_get (idx := 43) (by decide +kernel) cd_0 0 (by decide) w_130 rfl
theorem k_13_24 : Ok M13 24 (oS (gKo (.int 1)) 25) := r_iconst (n := 1) (by decide +kernel) (by decide +kernel)
theorem k_13_25 : Ok M13 25 (oS (gI2 f_iadd) 26) := r_iadd (by decide +kernel)
theorem k_13_26 : Ok M13 26 (oPI 0 0 29) := r_putI (idx := 43) (by decide +kernel) cd_0 0 (by decide) w_130 rfl rfl (by decide +kernel)
theorem k_13_29 : Ok M13 29 (oRV) := r_return rfl (by decide +kernel)
def B13_0 : List (Nat × aO) := [(0, oLA 0 1), (1, oGe 0 0 4), (4, oS (gKo (.int 6)) 6), (6, oB2 b_icmp_ge q_ge 29 9), (9, oLA 0 10), (10, oGe 0 1 13), (13, oLA 0 14), (14, oGe 0 0 17)]
theorem B13_0_ok : ∀ q ∈ B13_0, Ok M13 q.1 q.2 := List.forall_mem_cons.mpr ⟨k_13_0, List.forall_mem_cons.mpr ⟨k_13_1, List.forall_mem_cons.mpr ⟨k_13_4, List.forall_mem_cons.mpr ⟨k_13_6, List.forall_mem_cons.mpr ⟨k_13_9, List.forall_mem_cons.mpr ⟨k_13_10, List.forall_mem_cons.mpr ⟨k_13_13, List.forall_mem_cons.mpr ⟨k_13_14, fun _ h => absurd h List.not_mem_nil⟩⟩⟩⟩⟩⟩⟩⟩
def B13_1 : List (Nat × aO) := [(17, oLI 1 18), (18, oAT 19), (19, oLA 0 20), (20, oS gDu 21), (21, oGe 0 0 24), (24, oS (gKo (.int 1)) 25), (25, oS (gI2 f_iadd) 26), (26, oPI 0 0 29)]
theorem B13_1_ok : ∀ q ∈ B13_1, Ok M13 q.1 q.2 := List.forall_mem_cons.mpr ⟨k_13_17, List.forall_mem_cons.mpr ⟨k_13_18, List.forall_mem_cons.mpr ⟨k_13_19, List.forall_mem_cons.mpr ⟨k_13_20, List.forall_mem_cons.mpr ⟨k_13_21, List.forall_mem_cons.mpr ⟨k_13_24, List.forall_mem_cons.mpr ⟨k_13_25, List.forall_mem_cons.mpr ⟨k_13_26, fun _ h => absurd h List.not_mem_nil⟩⟩⟩⟩⟩⟩⟩⟩
def B13_2 : List (Nat × aO) := [(29, oRV)]
theorem B13_2_ok : ∀ q ∈ B13_2, Ok M13 q.1 q.2 := List.forall_mem_cons.mpr ⟨k_13_29, fun _ h => absurd h List.not_mem_nil⟩
def P13 : List (Nat × List (Nat × aO)) := [(14, B13_0), (26, B13_1), (29, B13_2)]
theorem P13_ok : ∀ b ∈ P13, ∀ q ∈ b.2, Ok M13 q.1 q.2 := List.forall_mem_cons.mpr ⟨B13_0_ok, List.forall_mem_cons.mpr ⟨B13_1_ok, List.forall_mem_cons.mpr ⟨B13_2_ok, fun _ h => absurd h List.not_mem_nil⟩⟩⟩
theorem k_14_0 : Ok M14 0 (oLA 0 1) := r_aload_n (j := 0) (by decide +kernel) rfl
theorem k_14_1 : Ok M14 1 (oGe 0 2 4) := r_get (idx := 46) (by decide +kernel) cd_0 2 (by decide) w_136 rfl
theorem k_14_4 : Ok M14 4 (oS (gKo (.int 4)) 5) := r_iconst (n := 4) (by decide +kernel) (by decide +kernel)
theorem k_14_5 : Ok M14 5 (oB2 b_icmp_ge q_ge 37 8) := r_icmp_ge (off := 32) (by decide +kernel) (by decide +kernel)
theorem k_14_8 : Ok M14 8 (oLI 1 9) := r_iload_n (j := 1) (by decide +kernel) rfl
theorem k_14_9 : Ok M14 9 (oB1 b_if_eq q_eq 27 12) := r_if_eq (off := 18) (by decide +kernel) (by decide +kernel)
theorem k_14_12 : Ok M14 12 (oLA 0 13) := r_aload_n (j := 0) (by decide +kernel) rfl
theorem k_14_13 : Ok M14 13 (oS gDu 14) := r_dup (by decide +kernel)
theorem k_14_14 : Ok M14 14 (oGe 0 5 17) := r_get (idx := 60) (by decide +kernel) cd_0 5 (by decide) w_144 rfl
theorem k_14_17 : Ok M14 17 (oS (gKo (.int 1)) 18) := r_iconst (n := 1) (by decide +kernel) (by decide +kernel)
theorem k_14_18 : Ok M14 18 (oLA 0 19) := r_aload_n (j := 0) (by decide +kernel) rfl
theorem k_14_19 : Ok M14 19 (oGe 0 2 22) := r_get (idx := 46) (by decide +kernel) cd_0 2 (by decide) w_136 rfl
theorem k_14_22 : Ok M14 22 (oS (gI2 f_ishl) 23) := r_ishl (by decide +kernel)
theorem k_14_23 : Ok M14 23 (oS (gI2 f_ior) 24) := r_ior (by decide +kernel)
theorem k_14_24 : Ok M14 24 (oPI 0 5 27) := r_putI (idx := 60) (by decide +kernel) cd_0 5 (by decide) w_144 rfl rfl (by decide +kernel)
theorem k_14_27 : Ok M14 27 (oLA 0 28) := r_aload_n (j := 0) (by decide +kernel) rfl
theorem k_14_28 : Ok M14 28 (oS gDu 29) := r_dup (by decide +kernel)
theorem k_14_29 : Ok M14 29 (oGe 0 2 32) := r_get (idx := 46) (by decide +kernel) cd_0 2 (by decide) w_136 rfl
theorem k_14_32 : Ok M14 32 (oS (gKo (.int 1)) 33) := r_iconst (n := 1) (by decide +kernel) (by decide +kernel)
theorem k_14_33 : Ok M14 33 (oS (gI2 f_iadd) 34) := r_iadd (by decide +kernel)
theorem k_14_34 : Ok M14 34 (oPI 0 2 37) := r_putI (idx := 46) (by decide +kernel) cd_0 2 (by decide) w_136 rfl rfl (by decide +kernel)
theorem k_14_37 : Ok M14 37 (oRV) := r_return rfl (by decide +kernel)
def B14_0 : List (Nat × aO) := [(0, oLA 0 1), (1, oGe 0 2 4), (4, oS (gKo (.int 4)) 5), (5, oB2 b_icmp_ge q_ge 37 8), (8, oLI 1 9), (9, oB1 b_if_eq q_eq 27 12), (12, oLA 0 13), (13, oS gDu 14)]
theorem B14_0_ok : ∀ q ∈ B14_0, Ok M14 q.1 q.2 := List.forall_mem_cons.mpr ⟨k_14_0, List.forall_mem_cons.mpr ⟨k_14_1, List.forall_mem_cons.mpr ⟨k_14_4, List.forall_mem_cons.mpr ⟨k_14_5, List.forall_mem_cons.mpr ⟨k_14_8, List.forall_mem_cons.mpr ⟨k_14_9, List.forall_mem_cons.mpr ⟨k_14_12, List.forall_mem_cons.mpr ⟨k_14_13, fun _ h => absurd h List.not_mem_nil⟩⟩⟩⟩⟩⟩⟩⟩
def B14_1 : List (Nat × aO) := [(14, oGe 0 5 17), (17, oS (gKo (.int 1)) 18), (18, oLA 0 19), (19, oGe 0 2 22), (22, oS (gI2 f_ishl) 23), (23, oS (gI2 f_ior) 24), (24, oPI 0 5 27), (27, oLA 0 28)]
theorem B14_1_ok : ∀ q ∈ B14_1, Ok M14 q.1 q.2 := List.forall_mem_cons.mpr ⟨k_14_14, List.forall_mem_cons.mpr ⟨k_14_17, List.forall_mem_cons.mpr ⟨k_14_18, List.forall_mem_cons.mpr ⟨k_14_19, List.forall_mem_cons.mpr ⟨k_14_22, List.forall_mem_cons.mpr ⟨k_14_23, List.forall_mem_cons.mpr ⟨k_14_24, List.forall_mem_cons.mpr ⟨k_14_27, fun _ h => absurd h List.not_mem_nil⟩⟩⟩⟩⟩⟩⟩⟩
def B14_2 : List (Nat × aO) := [(28, oS gDu 29), (29, oGe 0 2 32), (32, oS (gKo (.int 1)) 33), (33, oS (gI2 f_iadd) 34), (34, oPI 0 2 37), (37, oRV)]
theorem B14_2_ok : ∀ q ∈ B14_2, Ok M14 q.1 q.2 := List.forall_mem_cons.mpr ⟨k_14_28, List.forall_mem_cons.mpr ⟨k_14_29, List.forall_mem_cons.mpr ⟨k_14_32, List.forall_mem_cons.mpr ⟨k_14_33, List.forall_mem_cons.mpr ⟨k_14_34, List.forall_mem_cons.mpr ⟨k_14_37, fun _ h => absurd h List.not_mem_nil⟩⟩⟩⟩⟩⟩
def P14 : List (Nat × List (Nat × aO)) := [(13, B14_0), (27, B14_1), (37, B14_2)]
theorem P14_ok : ∀ b ∈ P14, ∀ q ∈ b.2, Ok M14 q.1 q.2 := List.forall_mem_cons.mpr ⟨B14_0_ok, List.forall_mem_cons.mpr ⟨B14_1_ok, List.forall_mem_cons.mpr ⟨B14_2_ok, fun _ h => absurd h List.not_mem_nil⟩⟩⟩
theorem k_15_0 : Ok M15 0 (oLA 0 1) := r_aload_n (j := 0) (by decide +kernel) rfl
theorem k_15_1 : Ok M15 1 (oGe 0 1 4) := r_get (idx := 9) (by decide +kernel) cd_0 1 (by decide) w_134 rfl
theorem k_15_4 : Ok M15 4 (oLI 1 5) := r_iload_n (j := 1) (by decide +kernel) rfl
theorem k_15_5 : Ok M15 5 (oS gD2 6) := r_dup2 (by decide +kernel)
theorem k_15_6 : Ok M15 6 (oAI 7) := r_iaload (by decide +kernel)
theorem k_15_7 : Ok M15 7 (oLA 0 8) := r_aload_n (j := 0) (by decide +kernel) rfl
theorem k_15_8 : Ok M15 8 (oGe 0 1 11) := r_get (idx := 9) (by decide +kernel) cd_0 1 (by decide) w_134 rfl
theorem k_15_11 : Ok M15 11 (oLI 2 12) := r_iload_n (j := 2) (by decide +kernel) rfl
theorem k_15_12 : Ok M15 12 (oAI 13) := r_iaload (by decide +kernel)
theorem k_15_13 : Ok M15 13 (oS (gI2 f_ior) 14) := r_ior (by decide +kernel)
theorem k_15_14 : Ok M15 14 (oAT 15) := r_iastore (by decide +kernel)
theorem k_15_15 : Ok M15 15 (oS (gKo (.int 0)) 16) := r_iconst (n := 0) (by decide +kernel) (by decide +kernel)
theorem k_15_16 : Ok M15 16 (oSI 3 4 17) := r_istore_n (j := 3) (by decide +kernel) rfl
theorem k_15_17 : Ok M15 17 (oLI 3 18) := r_iload_n (j := 3) (by decide +kernel) rfl
theorem k_15_18 : Ok M15 18 (oLA 0 19) := r_aload_n (j := 0) (by decide +kernel) rfl
theorem k_15_19 : Ok M15 19 (oGe 0 2 22) := r_get (idx := 46) (by decide +kernel) cd_0 2 (by decide) w_136 rfl
theorem k_15_22 : Ok M15 22 (oB2 b_icmp_ge q_ge 55 25) := r_icmp_ge (off := 33) (by decide +kernel) (by decide +kernel)
theorem k_15_25 : Ok M15 25 (oLA 0 26) := r_aload_n (j := 0) (by decide +kernel) rfl
theorem k_15_26 : Ok M15 26 (oLI 3 27) := r_iload_n (j := 3) (by decide +kernel) rfl
theorem k_15_27 : Ok M15 27 (oLI 1 28) := r_iload_n (j := 1) (by decide +kernel) rfl
theorem k_15_28 : Ok M15 28 (oS (gKo (.int 99)) 30) := r_bipush (n := 99) (by decide +kernel) (by decide +kernel)
theorem k_15_30 : Ok M15 30 (oLA 0 31) := r_aload_n (j := 0) (by decide +kernel) rfl
theorem k_15_31 : Ok M15 31 (oLI 3 32) := r_iload_n (j := 3) (by decide +kernel) rfl
theorem k_15_32 : Ok M15 32 (oLI 1 33) := r_iload_n (j := 1) (by decide +kernel) rfl
theorem k_15_33 : Ok M15 33 (oCV 0 3 2) := r_callV (idx := 56) (by decide +kernel) w_445 cv_3
theorem k_15_36 : Ok M15 36 (oLA 0 37) := r_aload_n (j := 0) (by decide +kernel) rfl
theorem k_15_37 : Ok M15 37 (oLI 3 38) := r_iload_n (j := 3) (by decide +kernel) rfl
theorem k_15_38 : Ok M15 38 (oLI 2 39) := r_iload_n (j := 2) (by decide +kernel) rfl
theorem k_15_39 : Ok M15 39 (oCV 0 3 2) := r_callV (idx := 56) (by decide +kernel) w_445 cv_3
theorem k_15_42 : Ok M15 42 (oS (gI2 f_iadd) 43) := r_iadd (by decide +kernel)
theorem k_15_43 : Ok M15 43 (oMn 46) := r_mmin (idx := 66) (by decide +kernel) w_496 w_417 w_78 w_mmin
theorem k_15_46 : Ok M15 46 (oCV 0 4 3) := r_callV (idx := 71) (by decide +kernel) w_497 cv_4
theorem k_15_49 : Ok M15 49 (oInc 3 1 4 52) := r_iinc (n := 1) (by decide +kernel) (by decide +kernel)
theorem k_15_52 : Ok M15 52 (oGo 17) := r_goto (off := (-35)) (by decide +kernel) (by decide +kernel)
theorem k_15_55 : Ok M15 55 (oLA 0 56) := r_aload_n (j := 0) (by decide +kernel) rfl
theorem k_15_56 : Ok M15 56 (oLI 2 57) := r_iload_n (j := 2) (by decide +kernel) rfl
theorem k_15_57 : Ok M15 57 (oCV 0 16 1) := r_callV (idx := 75) (by decide +kernel) w_498 cv_16
theorem k_15_60 : Ok M15 60 (oRV) := r_return rfl (by decide +kernel)
def B15_0 : List (Nat × aO) := [(0, oLA 0 1), (1, oGe 0 1 4), (4, oLI 1 5), (5, oS gD2 6), (6, oAI 7), (7, oLA 0 8), (8, oGe 0 1 11), (11, oLI 2 12)]
theorem B15_0_ok : ∀ q ∈ B15_0, Ok M15 q.1 q.2 := List.forall_mem_cons.mpr ⟨k_15_0, List.forall_mem_cons.mpr ⟨k_15_1, List.forall_mem_cons.mpr ⟨k_15_4, List.forall_mem_cons.mpr ⟨k_15_5, List.forall_mem_cons.mpr ⟨k_15_6, List.forall_mem_cons.mpr ⟨k_15_7, List.forall_mem_cons.mpr ⟨k_15_8, List.forall_mem_cons.mpr ⟨k_15_11, fun _ h => absurd h List.not_mem_nil⟩⟩⟩⟩⟩⟩⟩⟩
def B15_1 : List (Nat × aO) := [(12, oAI 13), (13, oS (gI2 f_ior) 14), (14, oAT 15), (15, oS (gKo (.int 0)) 16), (16, oSI 3 4 17), (17, oLI 3 18), (18, oLA 0 19), (19, oGe 0 2 22)]
theorem B15_1_ok : ∀ q ∈ B15_1, Ok M15 q.1 q.2 := List.forall_mem_cons.mpr ⟨k_15_12, List.forall_mem_cons.mpr ⟨k_15_13, List.forall_mem_cons.mpr ⟨k_15_14, List.forall_mem_cons.mpr ⟨k_15_15, List.forall_mem_cons.mpr ⟨k_15_16, List.forall_mem_cons.mpr ⟨k_15_17, List.forall_mem_cons.mpr ⟨k_15_18, List.forall_mem_cons.mpr ⟨k_15_19, fun _ h => absurd h List.not_mem_nil⟩⟩⟩⟩⟩⟩⟩⟩
def B15_2 : List (Nat × aO) := [(22, oB2 b_icmp_ge q_ge 55 25), (25, oLA 0 26), (26, oLI 3 27), (27, oLI 1 28), (28, oS (gKo (.int 99)) 30), (30, oLA 0 31), (31, oLI 3 32), (32, oLI 1 33)]
theorem B15_2_ok : ∀ q ∈ B15_2, Ok M15 q.1 q.2 := List.forall_mem_cons.mpr ⟨k_15_22, List.forall_mem_cons.mpr ⟨k_15_25, List.forall_mem_cons.mpr ⟨k_15_26, List.forall_mem_cons.mpr ⟨k_15_27, List.forall_mem_cons.mpr ⟨k_15_28, List.forall_mem_cons.mpr ⟨k_15_30, List.forall_mem_cons.mpr ⟨k_15_31, List.forall_mem_cons.mpr ⟨k_15_32, fun _ h => absurd h List.not_mem_nil⟩⟩⟩⟩⟩⟩⟩⟩
def B15_3 : List (Nat × aO) := [(33, oCV 0 3 2), (36, oLA 0 37), (37, oLI 3 38), (38, oLI 2 39), (39, oCV 0 3 2), (42, oS (gI2 f_iadd) 43), (43, oMn 46), (46, oCV 0 4 3)]
theorem B15_3_ok : ∀ q ∈ B15_3, Ok M15 q.1 q.2 := List.forall_mem_cons.mpr ⟨k_15_33, List.forall_mem_cons.mpr ⟨k_15_36, List.forall_mem_cons.mpr ⟨k_15_37, List.forall_mem_cons.mpr ⟨k_15_38, List.forall_mem_cons.mpr ⟨k_15_39, List.forall_mem_cons.mpr ⟨k_15_42, List.forall_mem_cons.mpr ⟨k_15_43, List.forall_mem_cons.mpr ⟨k_15_46, fun _ h => absurd h List.not_mem_nil⟩⟩⟩⟩⟩⟩⟩⟩
def B15_4 : List (Nat × aO) := [(49, oInc 3 1 4 52), (52, oGo 17), (55, oLA 0 56), (56, oLI 2 57), (57, oCV 0 16 1), (60, oRV)]
theorem B15_4_ok : ∀ q ∈ B15_4, Ok M15 q.1 q.2 := List.forall_mem_cons.mpr ⟨k_15_49, List.forall_mem_cons.mpr ⟨k_15_52, List.forall_mem_cons.mpr ⟨k_15_55, List.forall_mem_cons.mpr ⟨k_15_56, List.forall_mem_cons.mpr ⟨k_15_57, List.forall_mem_cons.mpr ⟨k_15_60, fun _ h => absurd h List.not_mem_nil⟩⟩⟩⟩⟩⟩
def P15 : List (Nat × List (Nat × aO)) := [(11, B15_0), (19, B15_1), (32, B15_2), (46, B15_3), (60, B15_4)]
theorem P15_ok : ∀ b ∈ P15, ∀ q ∈ b.2, Ok M15 q.1 q.2 := List.forall_mem_cons.mpr ⟨B15_0_ok, List.forall_mem_cons.mpr ⟨B15_1_ok, List.forall_mem_cons.mpr ⟨B15_2_ok, List.forall_mem_cons.mpr ⟨B15_3_ok, List.forall_mem_cons.mpr ⟨B15_4_ok, fun _ h => absurd h List.not_mem_nil⟩⟩⟩⟩⟩
theorem k_16_0 : Ok M16 0 (oLA 0 1) := r_aload_n (j := 0) (by decide +kernel) rfl
theorem k_16_1 : Ok M16 1 (oS gDu 2) := r_dup (by decide +kernel)
theorem k_16_2 : Ok M16 2 (oGe 0 0 5) := r_get (idx := 43) (by decide +kernel) cd_0 0 (by decide) w_130 rfl
theorem k_16_5 : Ok M16 5 (oS (gKo (.int 1)) 6) := r_iconst (n := 1) (by decide +kernel) (by decide +kernel)
theorem k_16_6 : Ok M16 6 (oS (gI2 f_isub) 7) := r_isub (by decide +kernel)
theorem k_16_7 : Ok M16 7 (oPI 0 0 10) := r_putI (idx := 43) (by decide +kernel) cd_0 0 (by decide) w_130 rfl rfl (by decide +kernel)
theorem k_16_10 : Ok M16 10 (oLI 1 11) := r_iload_n (j := 1) (by decide +kernel) rfl
theorem k_16_11 : Ok M16 11 (oSI 2 4 12) := r_istore_n (j := 2) (by decide +kernel) rfl
theorem k_16_12 : Ok M16 12 (oLI 2 13) := r_iload_n (j := 2) (by decide +kernel) rfl
theorem k_16_13 : Ok M16 13 (oLA 0 14) := r_aload_n (j := 0) (by decide +kernel) rfl
theorem k_16_14 : Ok M16 14 (oGe 0 0 17) := r_get (idx := 43) (by decide +kernel) cd_0 0 (by decide) w_130 rfl
theorem k_16_17 : Ok M16 17 (oB2 b_icmp_ge q_ge 70 20) := r_icmp_ge (off := 53) (by decide +kernel) (by decide +kernel)
theorem k_16_20 : Ok M16 20 (oLA 0 21) := r_aload_n (j := 0) (by decide +kernel) rfl
theorem k_16_21 : Ok M16 21 (oGe 0 1 24) := r_get (idx := 9) (by decide +kernel) cd_0 1 (by decide) w_134 rfl
theorem k_16_24 : Ok M16 24 (oLI 2 25) := r_iload_n (j := 2) (by decide +kernel) rfl
theorem k_16_25 : Ok M16 25 (oLA 0 26) := r_aload_n (j := 0) (by decide +kernel) rfl
theorem k_16_26 : Ok M16 26 (oGe 0 1 29) := r_get (idx := 9) (by decide +kernel) cd_0 1 (by decide) w_134 rfl
theorem k_16_29 : Ok M16 29 (oLI 2 30) := r_iload_n (j := 2) (by decide +kernel) rfl
theorem k_16_30 : Ok M16 30 (oS (gKo (.int 1)) 31) := r_iconst (n := 1) (by decide +kernel) (by decide +kernel)
theorem k_16_31 : Ok M16 31 (oS (gI2 f_iadd) 32) := r_iadd (by decide +kernel)
theorem k_16_32 : Ok M16 32 (oAI 33) := r_iaload (by decide +kernel)
theorem k_16_33 : Ok M16 33 (oAT 34) := r_iastore (by decide +kernel)
theorem k_16_34 : Ok M16 34 (oS (gKo (.int 0)) 35) := r_iconst (n := 0) (by decide +kernel) (by decide +kernel)
theorem k_16_35 : Ok M16 35 (oSI 3 4 36) := r_istore_n (j := 3) (by decide +kernel) rfl
theorem k_16_36 : Ok M16 36 (oLI 3 37) := r_iload_n (j := 3) (by decide +kernel) rfl
theorem k_16_37 : Ok M16 37 (oLA 0 38) := r_aload_n (j := 0) (by decide +kernel) rfl
theorem k_16_38 : Ok M16 38 (oGe 0 2 41) := r_get (idx := 46) (by decide +kernel) cd_0 2 (by decide) w_136 rfl
theorem k_16_41 : Ok M16 41 (oB2 b_icmp_ge q_ge 64 44) := r_icmp_ge (off := 23) (by decide +kernel) (by decide +kernel)
theorem k_16_44 : Ok M16 44 (oLA 0 45) := r_aload_n (j := 0) (by decide +kernel) rfl
theorem k_16_45 : Ok M16 45 (oLI 3 46) := r_iload_n (j := 3) (by decide +kernel) rfl
theorem k_16_46 : Ok M16 46 (oLI 2 47) := r_iload_n (j := 2) (by decide +kernel) rfl
theorem k_16_47 : Ok M16 47 (oLA 0 48) := r_aload_n (j := 0) (by decide +kernel) rfl
theorem k_16_48 : Ok M16 48 (oLI 3 49) := r_iload_n (j := 3) (by decide +kernel) rfl
theorem k_16_49 : Ok M16 49 (oLI 2 50) := r_iload_n (j := 2) (by decide +kernel) rfl
theorem k_16_50 : Ok M16 50 (oS (gKo (.int 1)) 51) := r_iconst (n := 1) (by decide +kernel) (by decide +kernel)
theorem k_16_51 : Ok M16 51 (oS (gI2 f_iadd) 52) := r_iadd (by decide +kernel)
theorem k_16_52 : Ok M16 52 (oCV 0 3 2) := r_callV (idx := 56) (by decide +kernel) w_445 cv_3
theorem k_16_55 : Ok M16 55 (oCV 0 4 3) := r_callV (idx := 71) (by decide +kernel) w_497 cv_4
theorem k_16_58 : Ok M16 58 (oInc 3 1 4 61) := r_iinc (n := 1) (by decide +kernel) (by decide +kernel)
theorem k_16_61 : Ok M16 61 (oGo 36) := r_goto (off := (-25)) (by decide +kernel) (by decide +kernel)
theorem k_16_64 : Ok M16 64 (oInc 2 1 4 67) := r_iinc (n := 1) (by decide +kernel) (by decide +kernel)
theorem k_16_67 : Ok M16 67 (oGo 12) := r_goto (off := (-55)) (by decide +kernel) (by decide +kernel)
theorem k_16_70 : Ok M16 70 (oRV) := r_return rfl (by decide +kernel)
def B16_0 : List (Nat × aO) := [(0, oLA 0 1), (1, oS gDu 2), (2, oGe 0 0 5), (5, oS (gKo (.int 1)) 6), (6, oS (gI2 f_isub) 7), (7, oPI 0 0 10), (10, oLI 1 11), (11, oSI 2 4 12)]
theorem B16_0_ok : ∀ q ∈ B16_0, Ok M16 q.1 q.2 := List.forall_mem_cons.mpr ⟨k_16_0, List.forall_mem_cons.mpr ⟨k_16_1, List.forall_mem_cons.mpr ⟨k_16_2, List.forall_mem_cons.mpr ⟨k_16_5, List.forall_mem_cons.mpr ⟨k_16_6, List.forall_mem_cons.mpr ⟨k_16_7, List.forall_mem_cons.mpr ⟨k_16_10, List.forall_mem_cons.mpr ⟨k_16_11, fun _ h => absurd h List.not_mem_nil⟩⟩⟩⟩⟩⟩⟩⟩
def B16_1 : List (Nat × aO) := [(12, oLI 2 13), (13, oLA 0 14), (14, oGe 0 0 17), (17, oB2 b_icmp_ge q_ge 70 20), (20, oLA 0 21), (21, oGe 0 1 24), (24, oLI 2 25), (25, oLA 0 26)]
theorem B16_1_ok : ∀ q ∈ B16_1, Ok M16 q.1 q.2 := List.forall_mem_cons.mpr ⟨k_16_12, List.forall_mem_cons.mpr ⟨k_16_13, List.forall_mem_cons.mpr ⟨k_16_14, List.forall_mem_cons.mpr ⟨k_16_17, List.forall_mem_cons.mpr ⟨k_16_20, List.forall_mem_cons.mpr ⟨k_16_21, List.forall_mem_cons.mpr ⟨k_16_24, List.forall_mem_cons.mpr ⟨k_16_25, fun _ h => absurd h List.not_mem_nil⟩⟩⟩⟩⟩⟩⟩⟩
def B16_2 : List (Nat × aO) := [(26, oGe 0 1 29), (29, oLI 2 30), (30, oS (gKo (.int 1)) 31), (31, oS (gI2 f_iadd) 32), (32, oAI 33), (33, oAT 34), (34, oS (gKo (.int 0)) 35), (35, oSI 3 4 36)]
theorem B16_2_ok : ∀ q ∈ B16_2, Ok M16 q.1 q.2 := List.forall_mem_cons.mpr ⟨k_16_26, List.forall_mem_cons.mpr ⟨k_16_29, List.forall_mem_cons.mpr ⟨k_16_30, List.forall_mem_cons.mpr ⟨k_16_31, List.forall_mem_cons.mpr ⟨k_16_32, List.forall_mem_cons.mpr ⟨k_16_33, List.forall_mem_cons.mpr ⟨k_16_34, List.forall_mem_cons.mpr ⟨k_16_35, fun _ h => absurd h List.not_mem_nil⟩⟩⟩⟩⟩⟩⟩⟩
def B16_3 : List (Nat × aO) := [(36, oLI 3 37), (37, oLA 0 38), (38, oGe 0 2 41), (41, oB2 b_icmp_ge q_ge 64 44), (44, oLA 0 45), (45, oLI 3 46), (46, oLI 2 47), (47, oLA 0 48)]
theorem B16_3_ok : ∀ q ∈ B16_3, Ok M16 q.1 q.2 := List.forall_mem_cons.mpr ⟨k_16_36, List.forall_mem_cons.mpr ⟨k_16_37, List.forall_mem_cons.mpr ⟨k_16_38, List.forall_mem_cons.mpr ⟨k_16_41, List.forall_mem_cons.mpr ⟨k_16_44, List.forall_mem_cons.mpr ⟨k_16_45, List.forall_mem_cons.mpr ⟨k_16_46, List.forall_mem_cons.mpr ⟨k_16_47, fun _ h => absurd h List.not_mem_nil⟩⟩⟩⟩⟩⟩⟩⟩
def B16_4 : List (Nat × aO) := [(48, oLI 3 49), (49, oLI 2 50), (50, oS (gKo (.int 1)) 51), (51, oS (gI2 f_iadd) 52), (52, oCV 0 3 2), (55, oCV 0 4 3), (58, oInc 3 1 4 61), (61, oGo 36)]
theorem B16_4_ok : ∀ q ∈ B16_4, Ok M16 q.1 q.2 := List.forall_mem_cons.mpr ⟨k_16_48, List.forall_mem_cons.mpr ⟨k_16_49, List.forall_mem_cons.mpr ⟨k_16_50, List.forall_mem_cons.mpr ⟨k_16_51, List.forall_mem_cons.mpr ⟨k_16_52, List.forall_mem_cons.mpr ⟨k_16_55, List.forall_mem_cons.mpr ⟨k_16_58, List.forall_mem_cons.mpr ⟨k_16_61, fun _ h => absurd h List.not_mem_nil⟩⟩⟩⟩⟩⟩⟩⟩
def B16_5 : List (Nat × aO) := [(64, oInc 2 1 4 67), (67, oGo 12), (70, oRV)]
theorem B16_5_ok : ∀ q ∈ B16_5, Ok M16 q.1 q.2 := List.forall_mem_cons.mpr ⟨k_16_64, List.forall_mem_cons.mpr ⟨k_16_67, List.forall_mem_cons.mpr ⟨k_16_70, fun _ h => absurd h List.not_mem_nil⟩⟩⟩
def P16 : List (Nat × List (Nat × aO)) := [(11, B16_0), (25, B16_1), (35, B16_2), (47, B16_3), (61, B16_4), (70, B16_5)]
theorem P16_ok : ∀ b ∈ P16, ∀ q ∈ b.2, Ok M16 q.1 q.2 := List.forall_mem_cons.mpr ⟨B16_0_ok, List.forall_mem_cons.mpr ⟨B16_1_ok, List.forall_mem_cons.mpr ⟨B16_2_ok, List.forall_mem_cons.mpr ⟨B16_3_ok, List.forall_mem_cons.mpr ⟨B16_4_ok, List.forall_mem_cons.mpr ⟨B16_5_ok, fun _ h => absurd h List.not_mem_nil⟩⟩⟩⟩⟩⟩
theorem k_17_0 : Ok M17 0 (oLA 0 1) := r_aload_n (j := 0) (by decide +kernel) rfl
theorem k_17_1 : Ok M17 1 (oGe 0 3 4) := r_get (idx := 15) (by decide +kernel) cd_0 3 (by decide) w_140 rfl
theorem k_17_4 : Ok M17 4 (oLI 1 5) := r_iload_n (j := 1) (by decide +kernel) rfl
theorem k_17_5 : Ok M17 5 (oS (gKo (.int 999)) 8) := r_sipush (n := 999) (by decide +kernel) (by decide +kernel)
theorem k_17_8 : Ok M17 8 (oLA 0 9) := r_aload_n (j := 0) (by decide +kernel) rfl
theorem k_17_9 : Ok M17 9 (oGe 0 3 12) := r_get (idx := 15) (by decide +kernel) cd_0 3 (by decide) w_140 rfl
theorem k_17_12 : Ok M17 12 (oLI 1 13) := r_iload_n (j := 1) (by decide +kernel) rfl
theorem k_17_13 : Ok M17 13 (oAI 14) := r_iaload (by decide +kernel)
theorem k_17_14 : Ok M17 14 (oLA 0 15) := r_aload_n (j := 0) (by decide +kernel) rfl
theorem k_17_15 : Ok M17 15 (oGe 0 3 18) := r_get (idx := 15) (by decide +kernel) cd_0 3 (by decide) w_140 rfl
theorem k_17_18 : Ok M17 18 (oLI 2 19) := r_iload_n (j := 2) (by decide +kernel) rfl
theorem k_17_19 : Ok M17 19 (oAI 20) := r_iaload (by decide +kernel)
theorem k_17_20 : Ok M17 20 (oS (gI2 f_iadd) 21) := r_iadd (by decide +kernel)
theorem k_17_21 : Ok M17 21 (oMn 24) := r_mmin (idx := 66) (by decide +kernel) w_496 w_417 w_78 w_mmin
theorem k_17_24 : Ok M17 24 (oAT 25) := r_iastore (by decide +kernel)
theorem k_17_25 : Ok M17 25 (oS (gKo (.int 0)) 26) := r_iconst (n := 0) (by decide +kernel) (by decide +kernel)
theorem k_17_26 : Ok M17 26 (oSI 3 4 27) := r_istore_n (j := 3) (by decide +kernel) rfl
theorem k_17_27 : Ok M17 27 (oLI 3 28) := r_iload_n (j := 3) (by decide +kernel) rfl
theorem k_17_28 : Ok M17 28 (oLA 0 29) := r_aload_n (j := 0) (by decide +kernel) rfl
theorem k_17_29 : Ok M17 29 (oGe 0 0 32) := r_get (idx := 43) (by decide +kernel) cd_0 0 (by decide) w_130 rfl
theorem k_17_32 : Ok M17 32 (oB2 b_icmp_ge q_ge 62 35) := r_icmp_ge (off := 30) (by decide +kernel) (by decide +kernel)
theorem k_17_35 : Ok M17 35 (oLA 0 36) := r_aload_n (j := 0) (by decide +kernel) rfl
theorem k_17_36 : Ok M17 36 (oLI 1 37) := r_iload_n (j := 1) (by decide +kernel) rfl
theorem k_17_37 : Ok M17 37 (oLI 3 38) := r_iload_n (j := 3) (by decide +kernel) rfl
theorem k_17_38 : Ok M17 38 (oLA 0 39) := r_aload_n (j := 0) (by decide +kernel) rfl
theorem k_17_39 : Ok M17 39 (oLI 1 40) := r_iload_n (j := 1) (by decide +kernel) rfl
theorem k_17_40 : Ok M17 40 (oLI 3 41) := r_iload_n (j := 3) (by decide +kernel) rfl
theorem k_17_41 : Ok M17 41 (oCV 0 3 2) := r_callV (idx := 56) (by decide +kernel) w_445 cv_3
theorem k_17_44 : Ok M17 44 (oLA 0 45) := r_aload_n (j := 0) (by decide +kernel) rfl
theorem k_17_45 : Ok M17 45 (oLI 2 46) := r_iload_n (j := 2) (by decide +kernel) rfl
theorem k_17_46 : Ok M17 46 (oLI 3 47) := r_iload_n (j := 3) (by decide +kernel) rfl
theorem k_17_47 : Ok M17 47 (oCV 0 3 2) := r_callV (idx := 56) (by decide +kernel) w_445 cv_3
theorem k_17_50 : Ok M17 50 (oMx 53) := r_mmax (idx := 79) (by decide +kernel) w_510 w_511 w_78 w_mmax
theorem k_17_53 : Ok M17 53 (oCV 0 4 3) := r_callV (idx := 71) (by decide +kernel) w_497 cv_4
theorem k_17_56 : Ok M17 56 (oInc 3 1 4 59) := r_iinc (n := 1) (by decide +kernel) (by decide +kernel)
theorem k_17_59 : Ok M17 59 (oGo 27) := r_goto (off := (-32)) (by decide +kernel) (by decide +kernel)
theorem k_17_62 : Ok M17 62 (oLA 0 63) := r_aload_n (j := 0) (by decide +kernel) rfl
theorem k_17_63 : Ok M17 63 (oS gDu 64) := r_dup (by decide +kernel)
theorem k_17_64 : Ok M17 64 (oGe 0 5 67) := r_get (idx := 60) (by decide +kernel) cd_0 5 (by decide) w_144 rfl
theorem k_17_67 : Ok M17 67 (oLA 0 68) := r_aload_n (j := 0) (by decide +kernel) rfl
theorem k_17_68 : Ok M17 68 (oGe 0 5 71) := r_get (idx := 60) (by decide +kernel) cd_0 5 (by decide) w_144 rfl
theorem k_17_71 : Ok M17 71 (oLI 2 72) := r_iload_n (j := 2) (by decide +kernel) rfl
theorem k_17_72 : Ok M17 72 (oCS 94 2) := r_callSN (idx := 82) (host := RX4) (by decide +kernel) (fun _ _ h => h.2.2.2.2.2.1) cs_94
theorem k_17_75 : Ok M17 75 (oLI 1 76) := r_iload_n (j := 1) (by decide +kernel) rfl
theorem k_17_76 : Ok M17 76 (oS (gI2 f_ishl) 77) := r_ishl (by decide +kernel)
theorem k_17_77 : Ok M17 77 (oS (gI2 f_ior) 78) := r_ior (by decide +kernel)
theorem k_17_78 : Ok M17 78 (oPI 0 5 81) := r_putI (idx := 60) (by decide +kernel) cd_0 5 (by decide) w_144 rfl rfl (by decide +kernel)
theorem k_17_81 : Ok M17 81 (oLA 0 82) := r_aload_n (j := 0) (by decide +kernel) rfl
theorem k_17_82 : Ok M17 82 (oLI 2 83) := r_iload_n (j := 2) (by decide +kernel) rfl
theorem k_17_83 : Ok M17 83 (oCV 0 18 1) := r_callV (idx := 85) (by decide +kernel) w_514 cv_18
theorem k_17_86 : Ok M17 86 (oRV) := r_return rfl (by decide +kernel)
def B17_0 : List (Nat × aO) := [(0, oLA 0 1), (1, oGe 0 3 4), (4, oLI 1 5), (5, oS (gKo (.int 999)) 8), (8, oLA 0 9), (9, oGe 0 3 12), (12, oLI 1 13), (13, oAI 14)]
theorem B17_0_ok : ∀ q ∈ B17_0, Ok M17 q.1 q.2 := List.forall_mem_cons.mpr ⟨k_17_0, List.forall_mem_cons.mpr ⟨k_17_1, List.forall_mem_cons.mpr ⟨k_17_4, List.forall_mem_cons.mpr ⟨k_17_5, List.forall_mem_cons.mpr ⟨k_17_8, List.forall_mem_cons.mpr ⟨k_17_9, List.forall_mem_cons.mpr ⟨k_17_12, List.forall_mem_cons.mpr ⟨k_17_13, fun _ h => absurd h List.not_mem_nil⟩⟩⟩⟩⟩⟩⟩⟩
def B17_1 : List (Nat × aO) := [(14, oLA 0 15), (15, oGe 0 3 18), (18, oLI 2 19), (19, oAI 20), (20, oS (gI2 f_iadd) 21), (21, oMn 24), (24, oAT 25), (25, oS (gKo (.int 0)) 26)]
theorem B17_1_ok : ∀ q ∈ B17_1, Ok M17 q.1 q.2 := List.forall_mem_cons.mpr ⟨k_17_14, List.forall_mem_cons.mpr ⟨k_17_15, List.forall_mem_cons.mpr ⟨k_17_18, List.forall_mem_cons.mpr ⟨k_17_19, List.forall_mem_cons.mpr ⟨k_17_20, List.forall_mem_cons.mpr ⟨k_17_21, List.forall_mem_cons.mpr ⟨k_17_24, List.forall_mem_cons.mpr ⟨k_17_25, fun _ h => absurd h List.not_mem_nil⟩⟩⟩⟩⟩⟩⟩⟩
def B17_2 : List (Nat × aO) := [(26, oSI 3 4 27), (27, oLI 3 28), (28, oLA 0 29), (29, oGe 0 0 32), (32, oB2 b_icmp_ge q_ge 62 35), (35, oLA 0 36), (36, oLI 1 37), (37, oLI 3 38)]
theorem B17_2_ok : ∀ q ∈ B17_2, Ok M17 q.1 q.2 := List.forall_mem_cons.mpr ⟨k_17_26, List.forall_mem_cons.mpr ⟨k_17_27, List.forall_mem_cons.mpr ⟨k_17_28, List.forall_mem_cons.mpr ⟨k_17_29, List.forall_mem_cons.mpr ⟨k_17_32, List.forall_mem_cons.mpr ⟨k_17_35, List.forall_mem_cons.mpr ⟨k_17_36, List.forall_mem_cons.mpr ⟨k_17_37, fun _ h => absurd h List.not_mem_nil⟩⟩⟩⟩⟩⟩⟩⟩
def B17_3 : List (Nat × aO) := [(38, oLA 0 39), (39, oLI 1 40), (40, oLI 3 41), (41, oCV 0 3 2), (44, oLA 0 45), (45, oLI 2 46), (46, oLI 3 47), (47, oCV 0 3 2)]
theorem B17_3_ok : ∀ q ∈ B17_3, Ok M17 q.1 q.2 := List.forall_mem_cons.mpr ⟨k_17_38, List.forall_mem_cons.mpr ⟨k_17_39, List.forall_mem_cons.mpr ⟨k_17_40, List.forall_mem_cons.mpr ⟨k_17_41, List.forall_mem_cons.mpr ⟨k_17_44, List.forall_mem_cons.mpr ⟨k_17_45, List.forall_mem_cons.mpr ⟨k_17_46, List.forall_mem_cons.mpr ⟨k_17_47, fun _ h => absurd h List.not_mem_nil⟩⟩⟩⟩⟩⟩⟩⟩
def B17_4 : List (Nat × aO) := [(50, oMx 53), (53, oCV 0 4 3), (56, oInc 3 1 4 59), (59, oGo 27), (62, oLA 0 63), (63, oS gDu 64), (64, oGe 0 5 67), (67, oLA 0 68)]
theorem B17_4_ok : ∀ q ∈ B17_4, Ok M17 q.1 q.2 := List.forall_mem_cons.mpr ⟨k_17_50, List.forall_mem_cons.mpr ⟨k_17_53, List.forall_mem_cons.mpr ⟨k_17_56, List.forall_mem_cons.mpr ⟨k_17_59, List.forall_mem_cons.mpr ⟨k_17_62, List.forall_mem_cons.mpr ⟨k_17_63, List.forall_mem_cons.mpr ⟨k_17_64, List.forall_mem_cons.mpr ⟨k_17_67, fun _ h => absurd h List.not_mem_nil⟩⟩⟩⟩⟩⟩⟩⟩
def B17_5 : List (Nat × aO) := [(68, oGe 0 5 71), (71, oLI 2 72), (72, oCS 94 2), (75, oLI 1 76), (76, oS (gI2 f_ishl) 77), (77, oS (gI2 f_ior) 78), (78, oPI 0 5 81), (81, oLA 0 82)]
theorem B17_5_ok : ∀ q ∈ B17_5, Ok M17 q.1 q.2 := List.forall_mem_cons.mpr ⟨k_17_68, List.forall_mem_cons.mpr ⟨k_17_71, List.forall_mem_cons.mpr ⟨k_17_72, List.forall_mem_cons.mpr ⟨k_17_75, List.forall_mem_cons.mpr ⟨k_17_76, List.forall_mem_cons.mpr ⟨k_17_77, List.forall_mem_cons.mpr ⟨k_17_78, List.forall_mem_cons.mpr ⟨k_17_81, fun _ h => absurd h List.not_mem_nil⟩⟩⟩⟩⟩⟩⟩⟩
def B17_6 : List (Nat × aO) := [(82, oLI 2 83), (83, oCV 0 18 1), (86, oRV)]
theorem B17_6_ok : ∀ q ∈ B17_6, Ok M17 q.1 q.2 := List.forall_mem_cons.mpr ⟨k_17_82, List.forall_mem_cons.mpr ⟨k_17_83, List.forall_mem_cons.mpr ⟨k_17_86, fun _ h => absurd h List.not_mem_nil⟩⟩⟩
def P17 : List (Nat × List (Nat × aO)) := [(13, B17_0), (25, B17_1), (37, B17_2), (47, B17_3), (67, B17_4), (81, B17_5), (86, B17_6)]
theorem P17_ok : ∀ b ∈ P17, ∀ q ∈ b.2, Ok M17 q.1 q.2 := List.forall_mem_cons.mpr ⟨B17_0_ok, List.forall_mem_cons.mpr ⟨B17_1_ok, List.forall_mem_cons.mpr ⟨B17_2_ok, List.forall_mem_cons.mpr ⟨B17_3_ok, List.forall_mem_cons.mpr ⟨B17_4_ok, List.forall_mem_cons.mpr ⟨B17_5_ok, List.forall_mem_cons.mpr ⟨B17_6_ok, fun _ h => absurd h List.not_mem_nil⟩⟩⟩⟩⟩⟩⟩
theorem k_18_0 : Ok M18 0 (oLA 0 1) := r_aload_n (j := 0) (by decide +kernel) rfl
theorem k_18_1 : Ok M18 1 (oS gDu 2) := r_dup (by decide +kernel)
theorem k_18_2 : Ok M18 2 (oGe 0 2 5) := r_get (idx := 46) (by decide +kernel) cd_0 2 (by decide) w_136 rfl
theorem k_18_5 : Ok M18 5 (oS (gKo (.int 1)) 6) := r_iconst (n := 1) (by decide +kernel) (by decide +kernel)
theorem k_18_6 : Ok M18 6 (oS (gI2 f_isub) 7) := r_isub (by decide +kernel)
theorem k_18_7 : Ok M18 7 (oPI 0 2 10) := r_putI (idx := 46) (by decide +kernel) cd_0 2 (by decide) w_136 rfl rfl (by decide +kernel)
theorem k_18_10 : Ok M18 10 (oLI 1 11) := r_iload_n (j := 1) (by decide +kernel) rfl
theorem k_18_11 : Ok M18 11 (oSI 2 4 12) := r_istore_n (j := 2) (by decide +kernel) rfl
theorem k_18_12 : Ok M18 12 (oLI 2 13) := r_iload_n (j := 2) (by decide +kernel) rfl
theorem k_18_13 : Ok M18 13 (oLA 0 14) := r_aload_n (j := 0) (by decide +kernel) rfl
theorem k_18_14 : Ok M18 14 (oGe 0 2 17) := r_get (idx := 46) (by decide +kernel) cd_0 2 (by decide) w_136 rfl
theorem k_18_17 : Ok M18 17 (oB2 b_icmp_ge q_ge 70 20) := r_icmp_ge (off := 53) (by decide +kernel) (by decide +kernel)
theorem k_18_20 : Ok M18 20 (oLA 0 21) := r_aload_n (j := 0) (by decide +kernel) rfl
theorem k_18_21 : Ok M18 21 (oGe 0 3 24) := r_get (idx := 15) (by decide +kernel) cd_0 3 (by decide) w_140 rfl
theorem k_18_24 : Ok M18 24 (oLI 2 25) := r_iload_n (j := 2) (by decide +kernel) rfl
theorem k_18_25 : Ok M18 25 (oLA 0 26) := r_aload_n (j := 0) (by decide +kernel) rfl
theorem k_18_26 : Ok M18 26 (oGe 0 3 29) := r_get (idx := 15) (by decide +kernel) cd_0 3 (by decide) w_140 rfl
theorem k_18_29 : Ok M18 29 (oLI 2 30) := r_iload_n (j := 2) (by decide +kernel) rfl
theorem k_18_30 : Ok M18 30 (oS (gKo (.int 1)) 31) := r_iconst (n := 1) (by decide +kernel) (by decide +kernel)
theorem k_18_31 : Ok M18 31 (oS (gI2 f_iadd) 32) := r_iadd (by decide +kernel)
theorem k_18_32 : Ok M18 32 (oAI 33) := r_iaload (by decide +kernel)
theorem k_18_33 : Ok M18 33 (oAT 34) := r_iastore (by decide +kernel)
theorem k_18_34 : Ok M18 34 (oS (gKo (.int 0)) 35) := r_iconst (n := 0) (by decide +kernel) (by decide +kernel)
theorem k_18_35 : Ok M18 35 (oSI 3 4 36) := r_istore_n (j := 3) (by decide +kernel) rfl
theorem k_18_36 : Ok M18 36 (oLI 3 37) := r_iload_n (j := 3) (by decide +kernel) rfl
theorem k_18_37 : Ok M18 37 (oLA 0 38) := r_aload_n (j := 0) (by decide +kernel) rfl
theorem k_18_38 : Ok M18 38 (oGe 0 0 41) := r_get (idx := 43) (by decide +kernel) cd_0 0 (by decide) w_130 rfl
theorem k_18_41 : Ok M18 41 (oB2 b_icmp_ge q_ge 64 44) := r_icmp_ge (off := 23) (by decide +kernel) (by decide +kernel)
theorem k_18_44 : Ok M18 44 (oLA 0 45) := r_aload_n (j := 0) (by decide +kernel) rfl
theorem k_18_45 : Ok M18 45 (oLI 2 46) := r_iload_n (j := 2) (by decide +kernel) rfl
theorem k_18_46 : Ok M18 46 (oLI 3 47) := r_iload_n (j := 3) (by decide +kernel) rfl
theorem k_18_47 : Ok M18 47 (oLA 0 48) := r_aload_n (j := 0) (by decide +kernel) rfl
theorem k_18_48 : Ok M18 48 (oLI 2 49) := r_iload_n (j := 2) (by decide +kernel) rfl
theorem k_18_49 : Ok M18 49 (oS (gKo (.int 1)) 50) := r_iconst (n := 1) (by decide +kernel) (by decide +kernel)
theorem k_18_50 : Ok M18 50 (oS (gI2 f_iadd) 51) := r_iadd (by decide +kernel)
theorem k_18_51 : Ok M18 51 (oLI 3 52) := r_iload_n (j := 3) (by decide +kernel) rfl
theorem k_18_52 : Ok M18 52 (oCV 0 3 2) := r_callV (idx := 56) (by decide +kernel) w_445 cv_3
theorem k_18_55 : Ok M18 55 (oCV 0 4 3) := r_callV (idx := 71) (by decide +kernel) w_497 cv_4
theorem k_18_58 : Ok M18 58 (oInc 3 1 4 61) := r_iinc (n := 1) (by decide +kernel) (by decide +kernel)
theorem k_18_61 : Ok M18 61 (oGo 36) := r_goto (off := (-25)) (by decide +kernel) (by decide +kernel)
theorem k_18_64 : Ok M18 64 (oInc 2 1 4 67) := r_iinc (n := 1) (by decide +kernel) (by decide +kernel)
theorem k_18_67 : Ok M18 67 (oGo 12) := r_goto (off := (-55)) (by decide +kernel) (by decide +kernel)
theorem k_18_70 : Ok M18 70 (oS (gKo (.int 1)) 71) := r_iconst (n := 1) (by decide +kernel) (by decide +kernel)
theorem k_18_71 : Ok M18 71 (oLI 1 72) := r_iload_n (j := 1) (by decide +kernel) rfl
theorem k_18_72 : Ok M18 72 (oS (gI2 f_ishl) 73) := r_ishl (by decide +kernel)
theorem k_18_73 : Ok M18 73 (oS (gKo (.int 1)) 74) := r_iconst (n := 1) (by decide +kernel) (by decide +kernel)
theorem k_18_74 : Ok M18 74 (oS (gI2 f_isub) 75) := r_isub (by decide +kernel)
theorem k_18_75 : Ok M18 75 (oSI 2 4 76) := r_istore_n (j := 2) (by decide +kernel) rfl
theorem k_18_76 : Ok M18 76 (oLA 0 77) := r_aload_n (j := 0) (by decide +kernel) rfl
theorem k_18_77 : Ok M18 77 (oLA 0 78) := r_aload_n (j := 0) (by decide +kernel) rfl
theorem k_18_78 : Ok M18 78 (oGe 0 5 81) := r_get (idx := 60) (by decide +kernel) cd_0 5 (by decide) w_144 rfl
theorem k_18_81 : Ok M18 81 (oLI 2 82) := r_iload_n (j := 2) (by decide +kernel) rfl
theorem k_18_82 : Ok M18 82 (oS (gI2 f_iand) 83) := r_iand (by decide +kernel)
theorem k_18_83 : Ok M18 83 (oLA 0 84) := r_aload_n (j := 0) (by decide +kernel) rfl
theorem k_18_84 : Ok M18 84 (oGe 0 5 87) := r_get (idx := 60) (by decide +kernel) cd_0 5 (by decide) w_144 rfl
theorem k_18_87 : Ok M18 87 (oS (gKo (.int 1)) 88) := r_iconst (n := 1) (by decide +kernel) (by decide +kernel)
theorem k_18_88 : Ok M18 88 (oS (gI2 f_ishr) 89) := r_ishr (by decide +kernel)
theorem k_18_89 : Ok M18 89 (oLI 2 90) := r_iload_n (j := 2) (by decide +kernel) rfl
theorem k_18_90 : Ok M18 90 (oS (gKo (.int (-1))) 91) := r_iconst (n := (-1)) (by decide +kernel) (by decide +kernel)
theorem k_18_91 : Ok M18 91 (oS (gI2 f_ixor) 92) := r_ixor (by decide +kernel)
theorem k_18_92 : Ok M18 92 (oS (gI2 f_iand) 93) := r_iand (by decide +kernel)
theorem k_18_93 : Ok M18 93 (oS (gI2 f_ior) 94) := r_ior (by decide +kernel)
theorem k_18_94 : Ok M18 94 (oPI 0 5 97) := r_putI (idx := 60) (by decide +kernel) cd_0 5 (by decide) w_144 rfl rfl (by decide +kernel)
theorem k_18_97 : Ok M18 97 (oRV) := r_return rfl (by decide +kernel)
def B18_0 : List (Nat × aO) := [(0, oLA 0 1), (1, oS gDu 2), (2, oGe 0 2 5), (5, oS (gKo (.int 1)) 6), (6, oS (gI2 f_isub) 7), (7, oPI 0 2 10), (10, oLI 1 11), (11, oSI 2 4 12)]
theorem B18_0_ok : ∀ q ∈ B18_0, Ok M18 q.1 q.2 := List.forall_mem_cons.mpr ⟨k_18_0, List.forall_mem_cons.mpr ⟨k_18_1, List.forall_mem_cons.mpr ⟨k_18_2, List.forall_mem_cons.mpr ⟨k_18_5, List.forall_mem_cons.mpr ⟨k_18_6, List.forall_mem_cons.mpr ⟨k_18_7, List.forall_mem_cons.mpr ⟨k_18_10, List.forall_mem_cons.mpr ⟨k_18_11, fun _ h => absurd h List.not_mem_nil⟩⟩⟩⟩⟩⟩⟩⟩
def B18_1 : List (Nat × aO) := [(12, oLI 2 13), (13, oLA 0 14), (14, oGe 0 2 17), (17, oB2 b_icmp_ge q_ge 70 20), (20, oLA 0 21), (21, oGe 0 3 24), (24, oLI 2 25), (25, oLA 0 26)]
theorem B18_1_ok : ∀ q ∈ B18_1, Ok M18 q.1 q.2 := List.forall_mem_cons.mpr ⟨k_18_12, List.forall_mem_cons.mpr ⟨k_18_13, List.forall_mem_cons.mpr ⟨k_18_14, List.forall_mem_cons.mpr ⟨k_18_17, List.forall_mem_cons.mpr ⟨k_18_20, List.forall_mem_cons.mpr ⟨k_18_21, List.forall_mem_cons.mpr ⟨k_18_24, List.forall_mem_cons.mpr ⟨k_18_25, fun _ h => absurd h List.not_mem_nil⟩⟩⟩⟩⟩⟩⟩⟩
def B18_2 : List (Nat × aO) := [(26, oGe 0 3 29), (29, oLI 2 30), (30, oS (gKo (.int 1)) 31), (31, oS (gI2 f_iadd) 32), (32, oAI 33), (33, oAT 34), (34, oS (gKo (.int 0)) 35), (35, oSI 3 4 36)]
theorem B18_2_ok : ∀ q ∈ B18_2, Ok M18 q.1 q.2 := List.forall_mem_cons.mpr ⟨k_18_26, List.forall_mem_cons.mpr ⟨k_18_29, List.forall_mem_cons.mpr ⟨k_18_30, List.forall_mem_cons.mpr ⟨k_18_31, List.forall_mem_cons.mpr ⟨k_18_32, List.forall_mem_cons.mpr ⟨k_18_33, List.forall_mem_cons.mpr ⟨k_18_34, List.forall_mem_cons.mpr ⟨k_18_35, fun _ h => absurd h List.not_mem_nil⟩⟩⟩⟩⟩⟩⟩⟩
def B18_3 : List (Nat × aO) := [(36, oLI 3 37), (37, oLA 0 38), (38, oGe 0 0 41), (41, oB2 b_icmp_ge q_ge 64 44), (44, oLA 0 45), (45, oLI 2 46), (46, oLI 3 47), (47, oLA 0 48)]
theorem B18_3_ok : ∀ q ∈ B18_3, Ok M18 q.1 q.2 := List.forall_mem_cons.mpr ⟨k_18_36, List.forall_mem_cons.mpr ⟨k_18_37, List.forall_mem_cons.mpr ⟨k_18_38, List.forall_mem_cons.mpr ⟨k_18_41, List.forall_mem_cons.mpr ⟨k_18_44, List.forall_mem_cons.mpr ⟨k_18_45, List.forall_mem_cons.mpr ⟨k_18_46, List.forall_mem_cons.mpr ⟨k_18_47, fun _ h => absurd h List.not_mem_nil⟩⟩⟩⟩⟩⟩⟩⟩
def B18_4 : List (Nat × aO) := [(48, oLI 2 49), (49, oS (gKo (.int 1)) 50), (50, oS (gI2 f_iadd) 51), (51, oLI 3 52), (52, oCV 0 3 2), (55, oCV 0 4 3), (58, oInc 3 1 4 61), (61, oGo 36)]
theorem B18_4_ok : ∀ q ∈ B18_4, Ok M18 q.1 q.2 := List.forall_mem_cons.mpr ⟨k_18_48, List.forall_mem_cons.mpr ⟨k_18_49, List.forall_mem_cons.mpr ⟨k_18_50, List.forall_mem_cons.mpr ⟨k_18_51, List.forall_mem_cons.mpr ⟨k_18_52, List.forall_mem_cons.mpr ⟨k_18_55, List.forall_mem_cons.mpr ⟨k_18_58, List.forall_mem_cons.mpr ⟨k_18_61, fun _ h => absurd h List.not_mem_nil⟩⟩⟩⟩⟩⟩⟩⟩
def B18_5 : List (Nat × aO) := [(64, oInc 2 1 4 67), (67, oGo 12), (70, oS (gKo (.int 1)) 71), (71, oLI 1 72), (72, oS (gI2 f_ishl) 73), (73, oS (gKo (.int 1)) 74), (74, oS (gI2 f_isub) 75), (75, oSI 2 4 76)]
theorem B18_5_ok : ∀ q ∈ B18_5, Ok M18 q.1 q.2 := List.forall_mem_cons.mpr ⟨k_18_64, List.forall_mem_cons.mpr ⟨k_18_67, List.forall_mem_cons.mpr ⟨k_18_70, List.forall_mem_cons.mpr ⟨k_18_71, List.forall_mem_cons.mpr ⟨k_18_72, List.forall_mem_cons.mpr ⟨k_18_73, List.forall_mem_cons.mpr ⟨k_18_74, List.forall_mem_cons.mpr ⟨k_18_75, fun _ h => absurd h List.not_mem_nil⟩⟩⟩⟩⟩⟩⟩⟩
def B18_6 : List (Nat × aO) := [(76, oLA 0 77), (77, oLA 0 78), (78, oGe 0 5 81), (81, oLI 2 82), (82, oS (gI2 f_iand) 83), (83, oLA 0 84), (84, oGe 0 5 87), (87, oS (gKo (.int 1)) 88)]
theorem B18_6_ok : ∀ q ∈ B18_6, Ok M18 q.1 q.2 := List.forall_mem_cons.mpr ⟨k_18_76, List.forall_mem_cons.mpr ⟨k_18_77, List.forall_mem_cons.mpr ⟨k_18_78, List.forall_mem_cons.mpr ⟨k_18_81, List.forall_mem_cons.mpr ⟨k_18_82, List.forall_mem_cons.mpr ⟨k_18_83, List.forall_mem_cons.mpr ⟨k_18_84, List.forall_mem_cons.mpr ⟨k_18_87, fun _ h => absurd h List.not_mem_nil⟩⟩⟩⟩⟩⟩⟩⟩
def B18_7 : List (Nat × aO) := [(88, oS (gI2 f_ishr) 89), (89, oLI 2 90), (90, oS (gKo (.int (-1))) 91), (91, oS (gI2 f_ixor) 92), (92, oS (gI2 f_iand) 93), (93, oS (gI2 f_ior) 94), (94, oPI 0 5 97), (97, oRV)]
theorem B18_7_ok : ∀ q ∈ B18_7, Ok M18 q.1 q.2 := List.forall_mem_cons.mpr ⟨k_18_88, List.forall_mem_cons.mpr ⟨k_18_89, List.forall_mem_cons.mpr ⟨k_18_90, List.forall_mem_cons.mpr ⟨k_18_91, List.forall_mem_cons.mpr ⟨k_18_92, List.forall_mem_cons.mpr ⟨k_18_93, List.forall_mem_cons.mpr ⟨k_18_94, List.forall_mem_cons.mpr ⟨k_18_97, fun _ h => absurd h List.not_mem_nil⟩⟩⟩⟩⟩⟩⟩⟩
def P18 : List (Nat × List (Nat × aO)) := [(11, B18_0), (25, B18_1), (35, B18_2), (47, B18_3), (61, B18_4), (75, B18_5), (87, B18_6), (97, B18_7)]
theorem P18_ok : ∀ b ∈ P18, ∀ q ∈ b.2, Ok M18 q.1 q.2 := List.forall_mem_cons.mpr ⟨B18_0_ok, List.forall_mem_cons.mpr ⟨B18_1_ok, List.forall_mem_cons.mpr ⟨B18_2_ok, List.forall_mem_cons.mpr ⟨B18_3_ok, List.forall_mem_cons.mpr ⟨B18_4_ok, List.forall_mem_cons.mpr ⟨B18_5_ok, List.forall_mem_cons.mpr ⟨B18_6_ok, List.forall_mem_cons.mpr ⟨B18_7_ok, fun _ h => absurd h List.not_mem_nil⟩⟩⟩⟩⟩⟩⟩⟩
theorem k_19_0 : Ok M19 0 (oLA 0 1) := r_aload_n (j := 0) (by decide +kernel) rfl
theorem k_19_1 : Ok M19 1 (oLI 1 2) := r_iload_n (j := 1) (by decide +kernel) rfl
theorem k_19_2 : Ok M19 2 (oPI 0 7 5) := r_putI (idx := 88) (by decide +kernel) cd_0 7 (by decide) w_149 rfl rfl (by decide +kernel)
theorem k_19_5 : Ok M19 5 (oLA 0 6) := r_aload_n (j := 0) (by decide +kernel) rfl
theorem k_19_6 : Ok M19 6 (oS (gKo (.int 0)) 7) := r_iconst (n := 0) (by decide +kernel) (by decide +kernel)
theorem k_19_7 : Ok M19 7 (oPI 0 12 10) := r_putI (idx := 49) (by decide +kernel) cd_0 12 (by decide) w_157 rfl rfl (by decide +kernel)
theorem k_19_10 : Ok M19 10 (oLA 0 11) := r_aload_n (j := 0) (by decide +kernel) rfl
theorem k_19_11 : Ok M19 11 (oGe 0 13 14) := r_get (idx := 33) (by decide +kernel) cd_0 13 (by decide) w_159 rfl
theorem k_19_14 : Ok M19 14 (oS (gKo (.int (-1))) 15) := r_iconst (n := (-1)) (by decide +kernel) (by decide +kernel)
theorem k_19_15 : Ok M19 15 (oCS 169 2) := r_callS (idx := 91) (by decide +kernel) w_253 cs_169
theorem k_19_18 : Ok M19 18 (oLA 0 19) := r_aload_n (j := 0) (by decide +kernel) rfl
theorem k_19_19 : Ok M19 19 (oGe 0 14 22) := r_get (idx := 36) (by decide +kernel) cd_0 14 (by decide) w_161 rfl
theorem k_19_22 : Ok M19 22 (oS (gKo (.int (-1))) 23) := r_iconst (n := (-1)) (by decide +kernel) (by decide +kernel)
theorem k_19_23 : Ok M19 23 (oCS 169 2) := r_callS (idx := 91) (by decide +kernel) w_253 cs_169
theorem k_19_26 : Ok M19 26 (oLA 0 27) := r_aload_n (j := 0) (by decide +kernel) rfl
theorem k_19_27 : Ok M19 27 (oLA 0 28) := r_aload_n (j := 0) (by decide +kernel) rfl
theorem k_19_28 : Ok M19 28 (oGe 0 5 31) := r_get (idx := 60) (by decide +kernel) cd_0 5 (by decide) w_144 rfl
theorem k_19_31 : Ok M19 31 (oPI 0 15 34) := r_putI (idx := 97) (by decide +kernel) cd_0 15 (by decide) w_165 rfl rfl (by decide +kernel)
theorem k_19_34 : Ok M19 34 (oLA 0 35) := r_aload_n (j := 0) (by decide +kernel) rfl
theorem k_19_35 : Ok M19 35 (oS (gKo (.int 0)) 36) := r_iconst (n := 0) (by decide +kernel) (by decide +kernel)
theorem k_19_36 : Ok M19 36 (oPI 0 16 39) := r_putI (idx := 100) (by decide +kernel) cd_0 16 (by decide) w_168 rfl rfl (by decide +kernel)
theorem k_19_39 : Ok M19 39 (oLA 0 40) := r_aload_n (j := 0) (by decide +kernel) rfl
theorem k_19_40 : Ok M19 40 (oS (gKo (.int (-1))) 41) := r_iconst (n := (-1)) (by decide +kernel) (by decide +kernel)
theorem k_19_41 : Ok M19 41 (oPI 0 17 44) := r_putI (idx := 39) (by decide +kernel) cd_0 17 (by decide) w_169 rfl rfl (by decide +kernel)
theorem k_19_44 : Ok M19 44 (oLA 0 45) := r_aload_n (j := 0) (by decide +kernel) rfl
theorem k_19_45 : Ok M19 45 (oS (gKo (.int 0)) 46) := r_iconst (n := 0) (by decide +kernel) (by decide +kernel)
theorem k_19_46 : Ok M19 46 (oPI 0 18 49) := r_putI (idx := 103) (by decide +kernel) cd_0 18 (by decide) w_170 rfl rfl (by decide +kernel)
theorem k_19_49 : Ok M19 49 (oLA 0 50) := r_aload_n (j := 0) (by decide +kernel) rfl
theorem k_19_50 : Ok M19 50 (oCV 0 20 0) := r_callV (idx := 106) (by decide +kernel) w_254 cv_20
theorem k_19_53 : Ok M19 53 (oLA 0 54) := r_aload_n (j := 0) (by decide +kernel) rfl
theorem k_19_54 : Ok M19 54 (oCV 0 21 0) := r_callV (idx := 109) (by decide +kernel) w_270 cv_21
theorem k_19_57 : Ok M19 57 (oLA 0 58) := r_aload_n (j := 0) (by decide +kernel) rfl
theorem k_19_58 : Ok M19 58 (oCV 0 24 0) := r_callV (idx := 112) (by decide +kernel) w_274 cv_24
theorem k_19_61 : Ok M19 61 (oRV) := r_return rfl (by decide +kernel)
def B19_0 : List (Nat × aO) := [(0, oLA 0 1), (1, oLI 1 2), (2, oPI 0 7 5), (5, oLA 0 6), (6, oS (gKo (.int 0)) 7), (7, oPI 0 12 10), (10, oLA 0 11), (11, oGe 0 13 14)]
theorem B19_0_ok : ∀ q ∈ B19_0, Ok M19 q.1 q.2 := List.forall_mem_cons.mpr ⟨k_19_0, List.forall_mem_cons.mpr ⟨k_19_1, List.forall_mem_cons.mpr ⟨k_19_2, List.forall_mem_cons.mpr ⟨k_19_5, List.forall_mem_cons.mpr ⟨k_19_6, List.forall_mem_cons.mpr ⟨k_19_7, List.forall_mem_cons.mpr ⟨k_19_10, List.forall_mem_cons.mpr ⟨k_19_11, fun _ h => absurd h List.not_mem_nil⟩⟩⟩⟩⟩⟩⟩⟩
def B19_1 : List (Nat × aO) := [(14, oS (gKo (.int (-1))) 15), (15, oCS 169 2), (18, oLA 0 19), (19, oGe 0 14 22), (22, oS (gKo (.int (-1))) 23), (23, oCS 169 2), (26, oLA 0 27), (27, oLA 0 28)]
theorem B19_1_ok : ∀ q ∈ B19_1, Ok M19 q.1 q.2 := List.forall_mem_cons.mpr ⟨k_19_14, List.forall_mem_cons.mpr ⟨k_19_15, List.forall_mem_cons.mpr ⟨k_19_18, List.forall_mem_cons.mpr ⟨k_19_19, List.forall_mem_cons.mpr ⟨k_19_22, List.forall_mem_cons.mpr ⟨k_19_23, List.forall_mem_cons.mpr ⟨k_19_26, List.forall_mem_cons.mpr ⟨k_19_27, fun _ h => absurd h List.not_mem_nil⟩⟩⟩⟩⟩⟩⟩⟩
def B19_2 : List (Nat × aO) := [(28, oGe 0 5 31), (31, oPI 0 15 34), (34, oLA 0 35), (35, oS (gKo (.int 0)) 36), (36, oPI 0 16 39), (39, oLA 0 40), (40, oS (gKo (.int (-1))) 41), (41, oPI 0 17 44)]
theorem B19_2_ok : ∀ q ∈ B19_2, Ok M19 q.1 q.2 := List.forall_mem_cons.mpr ⟨k_19_28, List.forall_mem_cons.mpr ⟨k_19_31, List.forall_mem_cons.mpr ⟨k_19_34, List.forall_mem_cons.mpr ⟨k_19_35, List.forall_mem_cons.mpr ⟨k_19_36, List.forall_mem_cons.mpr ⟨k_19_39, List.forall_mem_cons.mpr ⟨k_19_40, List.forall_mem_cons.mpr ⟨k_19_41, fun _ h => absurd h List.not_mem_nil⟩⟩⟩⟩⟩⟩⟩⟩
def B19_3 : List (Nat × aO) := [(44, oLA 0 45), (45, oS (gKo (.int 0)) 46), (46, oPI 0 18 49), (49, oLA 0 50), (50, oCV 0 20 0), (53, oLA 0 54), (54, oCV 0 21 0), (57, oLA 0 58)]
theorem B19_3_ok : ∀ q ∈ B19_3, Ok M19 q.1 q.2 := List.forall_mem_cons.mpr ⟨k_19_44, List.forall_mem_cons.mpr ⟨k_19_45, List.forall_mem_cons.mpr ⟨k_19_46, List.forall_mem_cons.mpr ⟨k_19_49, List.forall_mem_cons.mpr ⟨k_19_50, List.forall_mem_cons.mpr ⟨k_19_53, List.forall_mem_cons.mpr ⟨k_19_54, List.forall_mem_cons.mpr ⟨k_19_57, fun _ h => absurd h List.not_mem_nil⟩⟩⟩⟩⟩⟩⟩⟩
def B19_4 : List (Nat × aO) := [(58, oCV 0 24 0), (61, oRV)]
theorem B19_4_ok : ∀ q ∈ B19_4, Ok M19 q.1 q.2 := List.forall_mem_cons.mpr ⟨k_19_58, List.forall_mem_cons.mpr ⟨k_19_61, fun _ h => absurd h List.not_mem_nil⟩⟩
def P19 : List (Nat × List (Nat × aO)) := [(11, B19_0), (27, B19_1), (41, B19_2), (57, B19_3), (61, B19_4)]
theorem P19_ok : ∀ b ∈ P19, ∀ q ∈ b.2, Ok M19 q.1 q.2 := List.forall_mem_cons.mpr ⟨B19_0_ok, List.forall_mem_cons.mpr ⟨B19_1_ok, List.forall_mem_cons.mpr ⟨B19_2_ok, List.forall_mem_cons.mpr ⟨B19_3_ok, List.forall_mem_cons.mpr ⟨B19_4_ok, fun _ h => absurd h List.not_mem_nil⟩⟩⟩⟩⟩
theorem k_20_0 : Ok M20 0 (oLA 0 1) := r_aload_n (j := 0) (by decide +kernel) rfl
theorem k_20_1 : Ok M20 1 (oGe 0 10 4) := r_get (idx := 27) (by decide +kernel) cd_0 10 (by decide) w_153 rfl
theorem k_20_4 : Ok M20 4 (oS (gKo (.int 0)) 5) := r_iconst (n := 0) (by decide +kernel) (by decide +kernel)
theorem k_20_5 : Ok M20 5 (oCS 169 2) := r_callS (idx := 91) (by decide +kernel) w_253 cs_169
theorem k_20_8 : Ok M20 8 (oLA 0 9) := r_aload_n (j := 0) (by decide +kernel) rfl
theorem k_20_9 : Ok M20 9 (oGe 0 8 12) := r_get (idx := 21) (by decide +kernel) cd_0 8 (by decide) w_150 rfl
theorem k_20_12 : Ok M20 12 (oS (gKo (.int (-1))) 13) := r_iconst (n := (-1)) (by decide +kernel) (by decide +kernel)
theorem k_20_13 : Ok M20 13 (oCS 169 2) := r_callS (idx := 91) (by decide +kernel) w_253 cs_169
theorem k_20_16 : Ok M20 16 (oS (gKo (.int 0)) 17) := r_iconst (n := 0) (by decide +kernel) (by decide +kernel)
theorem k_20_17 : Ok M20 17 (oSI 1 4 18) := r_istore_n (j := 1) (by decide +kernel) rfl
theorem k_20_18 : Ok M20 18 (oLI 1 19) := r_iload_n (j := 1) (by decide +kernel) rfl
theorem k_20_19 : Ok M20 19 (oLA 0 20) := r_aload_n (j := 0) (by decide +kernel) rfl
theorem k_20_20 : Ok M20 20 (oCV 0 5 0) := r_callV (idx := 115) (by decide +kernel) w_258 cv_5
theorem k_20_23 : Ok M20 23 (oB2 b_icmp_ge q_ge 78 26) := r_icmp_ge (off := 55) (by decide +kernel) (by decide +kernel)
theorem k_20_26 : Ok M20 26 (oS (gKo (.int 0)) 27) := r_iconst (n := 0) (by decide +kernel) (by decide +kernel)
theorem k_20_27 : Ok M20 27 (oSI 2 4 28) := r_istore_n (j := 2) (by decide +kernel) rfl
theorem k_20_28 : Ok M20 28 (oS (gKo (.int 1)) 29) := r_iconst (n := 1) (by decide +kernel) (by decide +kernel)
theorem k_20_29 : Ok M20 29 (oSI 3 4 30) := r_istore_n (j := 3) (by decide +kernel) rfl
theorem k_20_30 : Ok M20 30 (oLI 3 31) := r_iload_n (j := 3) (by decide +kernel) rfl
theorem k_20_31 : Ok M20 31 (oLA 0 32) := r_aload_n (j := 0) (by decide +kernel) rfl
theorem k_20_32 : Ok M20 32 (oGe 0 2 35) := r_get (idx := 46) (by decide +kernel) cd_0 2 (by decide) w_136 rfl
theorem k_20_35 : Ok M20 35 (oB2 b_icmp_ge q_ge 55 38) := r_icmp_ge (off := 20) (by decide +kernel) (by decide +kernel)
theorem k_20_38 : Ok M20 38 (oLA 0 39) := r_aload_n (j := 0) (by decide +kernel) rfl
theorem k_20_39 : Ok M20 39 (oLI 3 40) := r_iload_n (j := 3) (by decide +kernel) rfl
theorem k_20_40 : Ok M20 40 (oLI 2 41) := r_iload_n (j := 2) (by decide +kernel) rfl
theorem k_20_41 : Ok M20 41 (oCV 0 22 2) := r_callV (idx := 119) (by decide +kernel) w_262 cv_22
theorem k_20_44 : Ok M20 44 (oB1 b_if_eq q_eq 49 47) := r_if_eq (off := 5) (by decide +kernel) (by decide +kernel)
theorem k_20_47 : Ok M20 47 (oLI 3 48) := r_iload_n (j := 3) (by decide +kernel) rfl
theorem k_20_48 : Ok M20 48 (oSI 2 4 49) := r_istore_n (j := 2) (by decide +kernel) rfl
theorem k_20_49 : Ok M20 49 (oInc 3 1 4 52) := r_iinc (n := 1) (by decide +kernel) (by decide +kernel)
theorem k_20_52 : Ok M20 52 (oGo 30) := r_goto (off := (-22)) (by decide +kernel) (by decide +kernel)
theorem k_20_55 : Ok M20 55 (oLA 0 56) := r_aload_n (j := 0) (by decide +kernel) rfl
theorem k_20_56 : Ok M20 56 (oGe 0 8 59) := r_get (idx := 21) (by decide +kernel) cd_0 8 (by decide) w_150 rfl
theorem k_20_59 : Ok M20 59 (oLI 1 60) := r_iload_n (j := 1) (by decide +kernel) rfl
theorem k_20_60 : Ok M20 60 (oLI 2 61) := r_iload_n (j := 2) (by decide +kernel) rfl
theorem k_20_61 : Ok M20 61 (oAT 62) := r_iastore (by decide +kernel)
theorem k_20_62 : Ok M20 62 (oLA 0 63) := r_aload_n (j := 0) (by decide +kernel) rfl
theorem k_20_63 : Ok M20 63 (oGe 0 10 66) := r_get (idx := 27) (by decide +kernel) cd_0 10 (by decide) w_153 rfl
theorem k_20_66 : Ok M20 66 (oLI 2 67) := r_iload_n (j := 2) (by decide +kernel) rfl
theorem k_20_67 : Ok M20 67 (oS gD2 68) := r_dup2 (by decide +kernel)
theorem k_20_68 : Ok M20 68 (oAI 69) := r_iaload (by decide +kernel)
theorem k_20_69 : Ok M20 69 (oS (gKo (.int 1)) 70) := r_iconst (n := 1) (by decide +kernel) (by decide +kernel)
theorem k_20_70 : Ok M20 70 (oS (gI2 f_iadd) 71) := r_iadd (by decide +kernel)
theorem k_20_71 : Ok M20 71 (oAT 72) := r_iastore (by decide +kernel)
theorem k_20_72 : Ok M20 72 (oInc 1 1 4 75) := r_iinc (n := 1) (by decide +kernel) (by decide +kernel)
theorem k_20_75 : Ok M20 75 (oGo 18) := r_goto (off := (-57)) (by decide +kernel) (by decide +kernel)
theorem k_20_78 : Ok M20 78 (oRV) := r_return rfl (by decide +kernel)
def B20_0 : List (Nat × aO) := [(0, oLA 0 1), (1, oGe 0 10 4), (4, oS (gKo (.int 0)) 5), (5, oCS 169 2), (8, oLA 0 9), (9, oGe 0 8 12), (12, oS (gKo (.int (-1))) 13), (13, oCS 169 2)]
theorem B20_0_ok : ∀ q ∈ B20_0, Ok M20 q.1 q.2 := List.forall_mem_cons.mpr ⟨k_20_0, List.forall_mem_cons.mpr ⟨k_20_1, List.forall_mem_cons.mpr ⟨k_20_4, List.forall_mem_cons.mpr ⟨k_20_5, List.forall_mem_cons.mpr ⟨k_20_8, List.forall_mem_cons.mpr ⟨k_20_9, List.forall_mem_cons.mpr ⟨k_20_12, List.forall_mem_cons.mpr ⟨k_20_13, fun _ h => absurd h List.not_mem_nil⟩⟩⟩⟩⟩⟩⟩⟩
def B20_1 : List (Nat × aO) := [(16, oS (gKo (.int 0)) 17), (17, oSI 1 4 18), (18, oLI 1 19), (19, oLA 0 20), (20, oCV 0 5 0), (23, oB2 b_icmp_ge q_ge 78 26), (26, oS (gKo (.int 0)) 27), (27, oSI 2 4 28)]
theorem B20_1_ok : ∀ q ∈ B20_1, Ok M20 q.1 q.2 := List.forall_mem_cons.mpr ⟨k_20_16, List.forall_mem_cons.mpr ⟨k_20_17, List.forall_mem_cons.mpr ⟨k_20_18, List.forall_mem_cons.mpr ⟨k_20_19, List.forall_mem_cons.mpr ⟨k_20_20, List.forall_mem_cons.mpr ⟨k_20_23, List.forall_mem_cons.mpr ⟨k_20_26, List.forall_mem_cons.mpr ⟨k_20_27, fun _ h => absurd h List.not_mem_nil⟩⟩⟩⟩⟩⟩⟩⟩
def B20_2 : List (Nat × aO) := [(28, oS (gKo (.int 1)) 29), (29, oSI 3 4 30), (30, oLI 3 31), (31, oLA 0 32), (32, oGe 0 2 35), (35, oB2 b_icmp_ge q_ge 55 38), (38, oLA 0 39), (39, oLI 3 40)]
theorem B20_2_ok : ∀ q ∈ B20_2, Ok M20 q.1 q.2 := List.forall_mem_cons.mpr ⟨k_20_28, List.forall_mem_cons.mpr ⟨k_20_29, List.forall_mem_cons.mpr ⟨k_20_30, List.forall_mem_cons.mpr ⟨k_20_31, List.forall_mem_cons.mpr ⟨k_20_32, List.forall_mem_cons.mpr ⟨k_20_35, List.forall_mem_cons.mpr ⟨k_20_38, List.forall_mem_cons.mpr ⟨k_20_39, fun _ h => absurd h List.not_mem_nil⟩⟩⟩⟩⟩⟩⟩⟩
def B20_3 : List (Nat × aO) := [(40, oLI 2 41), (41, oCV 0 22 2), (44, oB1 b_if_eq q_eq 49 47), (47, oLI 3 48), (48, oSI 2 4 49), (49, oInc 3 1 4 52), (52, oGo 30), (55, oLA 0 56)]
theorem B20_3_ok : ∀ q ∈ B20_3, Ok M20 q.1 q.2 := List.forall_mem_cons.mpr ⟨k_20_40, List.forall_mem_cons.mpr ⟨k_20_41, List.forall_mem_cons.mpr ⟨k_20_44, List.forall_mem_cons.mpr ⟨k_20_47, List.forall_mem_cons.mpr ⟨k_20_48, List.forall_mem_cons.mpr ⟨k_20_49, List.forall_mem_cons.mpr ⟨k_20_52, List.forall_mem_cons.mpr ⟨k_20_55, fun _ h => absurd h List.not_mem_nil⟩⟩⟩⟩⟩⟩⟩⟩
def B20_4 : List (Nat × aO) := [(56, oGe 0 8 59), (59, oLI 1 60), (60, oLI 2 61), (61, oAT 62), (62, oLA 0 63), (63, oGe 0 10 66), (66, oLI 2 67), (67, oS gD2 68)]
theorem B20_4_ok : ∀ q ∈ B20_4, Ok M20 q.1 q.2 := List.forall_mem_cons.mpr ⟨k_20_56, List.forall_mem_cons.mpr ⟨k_20_59, List.forall_mem_cons.mpr ⟨k_20_60, List.forall_mem_cons.mpr ⟨k_20_61, List.forall_mem_cons.mpr ⟨k_20_62, List.forall_mem_cons.mpr ⟨k_20_63, List.forall_mem_cons.mpr ⟨k_20_66, List.forall_mem_cons.mpr ⟨k_20_67, fun _ h => absurd h List.not_mem_nil⟩⟩⟩⟩⟩⟩⟩⟩
def B20_5 : List (Nat × aO) := [(68, oAI 69), (69, oS (gKo (.int 1)) 70), (70, oS (gI2 f_iadd) 71), (71, oAT 72), (72, oInc 1 1 4 75), (75, oGo 18), (78, oRV)]
theorem B20_5_ok : ∀ q ∈ B20_5, Ok M20 q.1 q.2 := List.forall_mem_cons.mpr ⟨k_20_68, List.forall_mem_cons.mpr ⟨k_20_69, List.forall_mem_cons.mpr ⟨k_20_70, List.forall_mem_cons.mpr ⟨k_20_71, List.forall_mem_cons.mpr ⟨k_20_72, List.forall_mem_cons.mpr ⟨k_20_75, List.forall_mem_cons.mpr ⟨k_20_78, fun _ h => absurd h List.not_mem_nil⟩⟩⟩⟩⟩⟩⟩
def P20 : List (Nat × List (Nat × aO)) := [(13, B20_0), (27, B20_1), (39, B20_2), (55, B20_3), (67, B20_4), (78, B20_5)]
theorem P20_ok : ∀ b ∈ P20, ∀ q ∈ b.2, Ok M20 q.1 q.2 := List.forall_mem_cons.mpr ⟨B20_0_ok, List.forall_mem_cons.mpr ⟨B20_1_ok, List.forall_mem_cons.mpr ⟨B20_2_ok, List.forall_mem_cons.mpr ⟨B20_3_ok, List.forall_mem_cons.mpr ⟨B20_4_ok, List.forall_mem_cons.mpr ⟨B20_5_ok, fun _ h => absurd h List.not_mem_nil⟩⟩⟩⟩⟩⟩
