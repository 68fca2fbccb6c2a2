theorem k_51_0 : Ok M51 0 (oLA 0 1) := r_aload_n (j := 0) (by decide +kernel) rfl
theorem k_51_1 : Ok M51 1 (oGe 3 2 4) := r_get (idx := 19) (by decide +kernel) cd_3 2 (by decide) w_100 rfl
theorem k_51_4 : Ok M51 4 (oS (gKo (.int 0)) 5) := r_iconst (n := 0) (by decide +kernel) (by decide +kernel)
theorem k_51_5 : Ok M51 5 (oLA 0 6) := r_aload_n (j := 0) (by decide +kernel) rfl
theorem k_51_6 : Ok M51 6 (oGe 3 4 9) := r_get (idx := 25) (by decide +kernel) cd_3 4 (by decide) w_104 rfl
theorem k_51_9 : Ok M51 9 (oAT 10) := r_iastore (by decide +kernel)
theorem k_51_10 : Ok M51 10 (oLA 0 11) := r_aload_n (j := 0) (by decide +kernel) rfl
theorem k_51_11 : Ok M51 11 (oGe 3 2 14) := r_get (idx := 19) (by decide +kernel) cd_3 2 (by decide) w_100 rfl
theorem k_51_14 : Ok M51 14 (oS (gKo (.int 1)) 15) := r_iconst (n := 1) (by decide +kernel) (by decide +kernel)
theorem k_51_15 : Ok M51 15 (oLA 0 16) := r_aload_n (j := 0) (by decide +kernel) rfl
theorem k_51_16 : Ok M51 16 (oGe 3 5 19) := r_get (idx := 28) (by decide +kernel) cd_3 5 (by decide) w_106 rfl
theorem k_51_19 : Ok M51 19 (oAT 20) := r_iastore (by decide +kernel)
theorem k_51_20 : Ok M51 20 (oLA 0 21) := r_aload_n (j := 0) (by decide +kernel) rfl
theorem k_51_21 : Ok M51 21 (oGe 3 2 24) := r_get (idx := 19) (by decide +kernel) cd_3 2 (by decide) w_100 rfl
theorem k_51_24 : Ok M51 24 (oS (gKo (.int 2)) 25) := r_iconst (n := 2) (by decide +kernel) (by decide +kernel)
theorem k_51_25 : Ok M51 25 (oLA 0 26) := r_aload_n (j := 0) (by decide +kernel) rfl
theorem k_51_26 : Ok M51 26 (oGe 3 6 29) := r_get (idx := 31) (by decide +kernel) cd_3 6 (by decide) w_107 rfl
theorem k_51_29 : Ok M51 29 (oAT 30) := r_iastore (by decide +kernel)
theorem k_51_30 : Ok M51 30 (oLA 0 31) := r_aload_n (j := 0) (by decide +kernel) rfl
theorem k_51_31 : Ok M51 31 (oGe 3 2 34) := r_get (idx := 19) (by decide +kernel) cd_3 2 (by decide) w_100 rfl
theorem k_51_34 : Ok M51 34 (oS (gKo (.int 3)) 35) := r_iconst (n := 3) (by decide +kernel) (by decide +kernel)
theorem k_51_35 : Ok M51 35 (oLA 0 36) := r_aload_n (j := 0) (by decide +kernel) rfl
theorem k_51_36 : Ok M51 36 (oCV 3 52 0) := r_callV (idx := 47) (by decide +kernel) w_350 cv_52
theorem k_51_39 : Ok M51 39 (oAT 40) := r_iastore (by decide +kernel)
theorem k_51_40 : Ok M51 40 (oRV) := r_return rfl (by decide +kernel)
def B51_0 : List (Nat × aO) := [(0, oLA 0 1), (1, oGe 3 2 4), (4, oS (gKo (.int 0)) 5), (5, oLA 0 6), (6, oGe 3 4 9), (9, oAT 10), (10, oLA 0 11), (11, oGe 3 2 14)]
theorem B51_0_ok : ∀ q ∈ B51_0, Ok M51 q.1 q.2 := List.forall_mem_cons.mpr ⟨k_51_0, List.forall_mem_cons.mpr ⟨k_51_1, List.forall_mem_cons.mpr ⟨k_51_4, List.forall_mem_cons.mpr ⟨k_51_5, List.forall_mem_cons.mpr ⟨k_51_6, List.forall_mem_cons.mpr ⟨k_51_9, List.forall_mem_cons.mpr ⟨k_51_10, List.forall_mem_cons.mpr ⟨k_51_11, fun _ h => absurd h List.not_mem_nil⟩⟩⟩⟩⟩⟩⟩⟩
def B51_1 : List (Nat × aO) := [(14, oS (gKo (.int 1)) 15), (15, oLA 0 16), (16, oGe 3 5 19), (19, oAT 20), (20, oLA 0 21), (21, oGe 3 2 24), (24, oS (gKo (.int 2)) 25), (25, oLA 0 26)]
theorem B51_1_ok : ∀ q ∈ B51_1, Ok M51 q.1 q.2 := List.forall_mem_cons.mpr ⟨k_51_14, List.forall_mem_cons.mpr ⟨k_51_15, List.forall_mem_cons.mpr ⟨k_51_16, List.forall_mem_cons.mpr ⟨k_51_19, List.forall_mem_cons.mpr ⟨k_51_20, List.forall_mem_cons.mpr ⟨k_51_21, List.forall_mem_cons.mpr ⟨k_51_24, List.forall_mem_cons.mpr ⟨k_51_25, fun _ h => absurd h List.not_mem_nil⟩⟩⟩⟩⟩⟩⟩⟩
def B51_2 : List (Nat × aO) := [(26, oGe 3 6 29), (29, oAT 30), (30, oLA 0 31), (31, oGe 3 2 34), (34, oS (gKo (.int 3)) 35), (35, oLA 0 36), (36, oCV 3 52 0), (39, oAT 40)]
theorem B51_2_ok : ∀ q ∈ B51_2, Ok M51 q.1 q.2 := List.forall_mem_cons.mpr ⟨k_51_26, List.forall_mem_cons.mpr ⟨k_51_29, List.forall_mem_cons.mpr ⟨k_51_30, List.forall_mem_cons.mpr ⟨k_51_31, List.forall_mem_cons.mpr ⟨k_51_34, List.forall_mem_cons.mpr ⟨k_51_35, List.forall_mem_cons.mpr ⟨k_51_36, List.forall_mem_cons.mpr ⟨k_51_39, fun _ h => absurd h List.not_mem_nil⟩⟩⟩⟩⟩⟩⟩⟩
def B51_3 : List (Nat × aO) := [(40, oRV)]
theorem B51_3_ok : ∀ q ∈ B51_3, Ok M51 q.1 q.2 := List.forall_mem_cons.mpr ⟨k_51_40, fun _ h => absurd h List.not_mem_nil⟩
def P51 : List (Nat × List (Nat × aO)) := [(11, B51_0), (25, B51_1), (39, B51_2), (40, B51_3)]
theorem P51_ok : ∀ b ∈ P51, ∀ q ∈ b.2, Ok M51 q.1 q.2 := List.forall_mem_cons.mpr ⟨B51_0_ok, List.forall_mem_cons.mpr ⟨B51_1_ok, List.forall_mem_cons.mpr ⟨B51_2_ok, List.forall_mem_cons.mpr ⟨B51_3_ok, fun _ h => absurd h List.not_mem_nil⟩⟩⟩⟩
theorem k_52_0 : Ok M52 0 (oLA 0 1) := r_aload_n (j := 0) (by decide +kernel) rfl
theorem k_52_1 : Ok M52 1 (oGe 3 3 4) := r_get (idx := 22) (by decide +kernel) cd_3 3 (by decide) w_102 rfl
theorem k_52_4 : Ok M52 4 (oB1 b_if_lt q_lt 30 7) := r_if_lt (off := 26) (by decide +kernel) (by decide +kernel)
theorem k_52_7 : Ok M52 7 (oLA 0 8) := r_aload_n (j := 0) (by decide +kernel) rfl
theorem k_52_8 : Ok M52 8 (oGe 3 3 11) := r_get (idx := 22) (by decide +kernel) cd_3 3 (by decide) w_102 rfl
theorem k_52_11 : Ok M52 11 (oLA 0 12) := r_aload_n (j := 0) (by decide +kernel) rfl
theorem k_52_12 : Ok M52 12 (oGe 3 1 15) := r_get (idx := 15) (by decide +kernel) cd_3 1 (by decide) w_98 rfl
theorem k_52_15 : Ok M52 15 (oB2 b_icmp_ge q_ge 30 18) := r_icmp_ge (off := 15) (by decide +kernel) (by decide +kernel)
theorem k_52_18 : Ok M52 18 (oLA 0 19) := r_aload_n (j := 0) (by decide +kernel) rfl
theorem k_52_19 : Ok M52 19 (oGe 3 0 22) := r_get (idx := 9) (by decide +kernel) cd_3 0 (by decide) w_97 rfl
theorem k_52_22 : Ok M52 22 (oLA 0 23) := r_aload_n (j := 0) (by decide +kernel) rfl
theorem k_52_23 : Ok M52 23 (oGe 3 3 26) := r_get (idx := 22) (by decide +kernel) cd_3 3 (by decide) w_102 rfl
theorem k_52_26 : Ok M52 26 (oAI 27) := r_iaload (by decide +kernel)
theorem k_52_27 : Ok M52 27 (oGo 31) := r_goto (off := 4) (by decide +kernel) (by decide +kernel)
theorem k_52_30 : Ok M52 30 (oS (gKo (.int (-1))) 31) := r_iconst (n := (-1)) (by decide +kernel) (by decide +kernel)
theorem k_52_31 : Ok M52 31 (oRI) := r_ireturn rfl (by decide +kernel)
def B52_0 : List (Nat × aO) := [(0, oLA 0 1), (1, oGe 3 3 4), (4, oB1 b_if_lt q_lt 30 7), (7, oLA 0 8), (8, oGe 3 3 11), (11, oLA 0 12), (12, oGe 3 1 15), (15, oB2 b_icmp_ge q_ge 30 18)]
theorem B52_0_ok : ∀ q ∈ B52_0, Ok M52 q.1 q.2 := List.forall_mem_cons.mpr ⟨k_52_0, List.forall_mem_cons.mpr ⟨k_52_1, List.forall_mem_cons.mpr ⟨k_52_4, List.forall_mem_cons.mpr ⟨k_52_7, List.forall_mem_cons.mpr ⟨k_52_8, List.forall_mem_cons.mpr ⟨k_52_11, List.forall_mem_cons.mpr ⟨k_52_12, List.forall_mem_cons.mpr ⟨k_52_15, fun _ h => absurd h List.not_mem_nil⟩⟩⟩⟩⟩⟩⟩⟩
def B52_1 : List (Nat × aO) := [(18, oLA 0 19), (19, oGe 3 0 22), (22, oLA 0 23), (23, oGe 3 3 26), (26, oAI 27), (27, oGo 31), (30, oS (gKo (.int (-1))) 31), (31, oRI)]
theorem B52_1_ok : ∀ q ∈ B52_1, Ok M52 q.1 q.2 := List.forall_mem_cons.mpr ⟨k_52_18, List.forall_mem_cons.mpr ⟨k_52_19, List.forall_mem_cons.mpr ⟨k_52_22, List.forall_mem_cons.mpr ⟨k_52_23, List.forall_mem_cons.mpr ⟨k_52_26, List.forall_mem_cons.mpr ⟨k_52_27, List.forall_mem_cons.mpr ⟨k_52_30, List.forall_mem_cons.mpr ⟨k_52_31, fun _ h => absurd h List.not_mem_nil⟩⟩⟩⟩⟩⟩⟩⟩
def P52 : List (Nat × List (Nat × aO)) := [(15, B52_0), (31, B52_1)]
theorem P52_ok : ∀ b ∈ P52, ∀ q ∈ b.2, Ok M52 q.1 q.2 := List.forall_mem_cons.mpr ⟨B52_0_ok, List.forall_mem_cons.mpr ⟨B52_1_ok, fun _ h => absurd h List.not_mem_nil⟩⟩
theorem k_53_0 : Ok M53 0 (oLA 0 1) := r_aload_n (j := 0) (by decide +kernel) rfl
theorem k_53_1 : Ok M53 1 (oLI 1 2) := r_iload_n (j := 1) (by decide +kernel) rfl
theorem k_53_2 : Ok M53 2 (oPI 3 5 5) := r_putI (idx := 28) (by decide +kernel) cd_3 5 (by decide) w_106 rfl rfl (by decide +kernel)
theorem k_53_5 : Ok M53 5 (oLA 0 6) := r_aload_n (j := 0) (by decide +kernel) rfl
theorem k_53_6 : Ok M53 6 (oLI 2 7) := r_iload_n (j := 2) (by decide +kernel) rfl
theorem k_53_7 : Ok M53 7 (oPI 3 6 10) := r_putI (idx := 31) (by decide +kernel) cd_3 6 (by decide) w_107 rfl rfl (by decide +kernel)
theorem k_53_10 : Ok M53 10 (oRV) := r_return rfl (by decide +kernel)
def B53_0 : List (Nat × aO) := [(0, oLA 0 1), (1, oLI 1 2), (2, oPI 3 5 5), (5, oLA 0 6), (6, oLI 2 7), (7, oPI 3 6 10), (10, oRV)]
theorem B53_0_ok : ∀ q ∈ B53_0, Ok M53 q.1 q.2 := List.forall_mem_cons.mpr ⟨k_53_0, List.forall_mem_cons.mpr ⟨k_53_1, List.forall_mem_cons.mpr ⟨k_53_2, List.forall_mem_cons.mpr ⟨k_53_5, List.forall_mem_cons.mpr ⟨k_53_6, List.forall_mem_cons.mpr ⟨k_53_7, List.forall_mem_cons.mpr ⟨k_53_10, fun _ h => absurd h List.not_mem_nil⟩⟩⟩⟩⟩⟩⟩
def P53 : List (Nat × List (Nat × aO)) := [(10, B53_0)]
theorem P53_ok : ∀ b ∈ P53, ∀ q ∈ b.2, Ok M53 q.1 q.2 := List.forall_mem_cons.mpr ⟨B53_0_ok, fun _ h => absurd h List.not_mem_nil⟩
theorem k_54_0 : Ok M54 0 (oLA 0 1) := r_aload_n (j := 0) (by decide +kernel) rfl
theorem k_54_1 : Ok M54 1 (oCV 3 52 0) := r_callV (idx := 47) (by decide +kernel) w_350 cv_52
theorem k_54_4 : Ok M54 4 (oLI 1 5) := r_iload_n (j := 1) (by decide +kernel) rfl
theorem k_54_5 : Ok M54 5 (oB2 b_icmp_eq q_eq 10 8) := r_icmp_eq (off := 5) (by decide +kernel) (by decide +kernel)
theorem k_54_8 : Ok M54 8 (oS (gKo (.int 0)) 9) := r_iconst (n := 0) (by decide +kernel) (by decide +kernel)
theorem k_54_9 : Ok M54 9 (oRZ) := r_zreturn rfl (by decide +kernel)
theorem k_54_10 : Ok M54 10 (oLA 0 11) := r_aload_n (j := 0) (by decide +kernel) rfl
theorem k_54_11 : Ok M54 11 (oS gDu 12) := r_dup (by decide +kernel)
theorem k_54_12 : Ok M54 12 (oGe 3 3 15) := r_get (idx := 22) (by decide +kernel) cd_3 3 (by decide) w_102 rfl
theorem k_54_15 : Ok M54 15 (oS (gKo (.int 1)) 16) := r_iconst (n := 1) (by decide +kernel) (by decide +kernel)
theorem k_54_16 : Ok M54 16 (oS (gI2 f_iadd) 17) := r_iadd (by decide +kernel)
theorem k_54_17 : Ok M54 17 (oPI 3 3 20) := r_putI (idx := 22) (by decide +kernel) cd_3 3 (by decide) w_102 rfl rfl (by decide +kernel)
theorem k_54_20 : Ok M54 20 (oS (gKo (.int 1)) 21) := r_iconst (n := 1) (by decide +kernel) (by decide +kernel)
theorem k_54_21 : Ok M54 21 (oRZ) := r_zreturn rfl (by decide +kernel)
def B54_0 : List (Nat × aO) := [(0, oLA 0 1), (1, oCV 3 52 0), (4, oLI 1 5), (5, oB2 b_icmp_eq q_eq 10 8), (8, oS (gKo (.int 0)) 9), (9, oRZ), (10, oLA 0 11), (11, oS gDu 12)]
theorem B54_0_ok : ∀ q ∈ B54_0, Ok M54 q.1 q.2 := List.forall_mem_cons.mpr ⟨k_54_0, List.forall_mem_cons.mpr ⟨k_54_1, List.forall_mem_cons.mpr ⟨k_54_4, List.forall_mem_cons.mpr ⟨k_54_5, List.forall_mem_cons.mpr ⟨k_54_8, List.forall_mem_cons.mpr ⟨k_54_9, List.forall_mem_cons.mpr ⟨k_54_10, List.forall_mem_cons.mpr ⟨k_54_11, fun _ h => absurd h List.not_mem_nil⟩⟩⟩⟩⟩⟩⟩⟩
def B54_1 : List (Nat × aO) := [(12, oGe 3 3 15), (15, oS (gKo (.int 1)) 16), (16, oS (gI2 f_iadd) 17), (17, oPI 3 3 20), (20, oS (gKo (.int 1)) 21), (21, oRZ)]
theorem B54_1_ok : ∀ q ∈ B54_1, Ok M54 q.1 q.2 := List.forall_mem_cons.mpr ⟨k_54_12, List.forall_mem_cons.mpr ⟨k_54_15, List.forall_mem_cons.mpr ⟨k_54_16, List.forall_mem_cons.mpr ⟨k_54_17, List.forall_mem_cons.mpr ⟨k_54_20, List.forall_mem_cons.mpr ⟨k_54_21, fun _ h => absurd h List.not_mem_nil⟩⟩⟩⟩⟩⟩
def P54 : List (Nat × List (Nat × aO)) := [(11, B54_0), (21, B54_1)]
theorem P54_ok : ∀ b ∈ P54, ∀ q ∈ b.2, Ok M54 q.1 q.2 := List.forall_mem_cons.mpr ⟨B54_0_ok, List.forall_mem_cons.mpr ⟨B54_1_ok, fun _ h => absurd h List.not_mem_nil⟩⟩
theorem k_55_0 : Ok M55 0 (oLA 0 1) := r_aload_n (j := 0) (by decide +kernel) rfl
theorem k_55_1 : Ok M55 1 (oS (gKo (.int 0)) 2) := r_iconst (n := 0) (by decide +kernel) (by decide +kernel)
theorem k_55_2 : Ok M55 2 (oS (gKo (.int 0)) 3) := r_iconst (n := 0) (by decide +kernel) (by decide +kernel)
theorem k_55_3 : Ok M55 3 (oCV 3 53 2) := r_callV (idx := 51) (by decide +kernel) w_346 cv_53
theorem k_55_6 : Ok M55 6 (oLA 0 7) := r_aload_n (j := 0) (by decide +kernel) rfl
theorem k_55_7 : Ok M55 7 (oCV 3 52 0) := r_callV (idx := 47) (by decide +kernel) w_350 cv_52
theorem k_55_10 : Ok M55 10 (oLu 10 (#[(37, 64), (43, 70), (61, 34)] : Array (Int × Int)).toList 92) := r_lookup (ps := #[(37, 64), (43, 70), (61, 34)]) (dflt := 92) (len := 34) (by decide +kernel) (by decide +kernel)
theorem k_55_44 : Ok M55 44 (oLA 1 45) := r_aload_n (j := 1) (by decide +kernel) rfl
theorem k_55_45 : Ok M55 45 (oGe 0 2 48) := r_get (idx := 55) (by decide +kernel) cd_0 2 (by decide) w_137 rfl
theorem k_55_48 : Ok M55 48 (oB1 b_if_ne q_ne 72 51) := r_if_ne (off := 24) (by decide +kernel) (by decide +kernel)
theorem k_55_51 : Ok M55 51 (oLA 1 52) := r_aload_n (j := 1) (by decide +kernel) rfl
theorem k_55_52 : Ok M55 52 (oGe 0 0 55) := r_get (idx := 60) (by decide +kernel) cd_0 0 (by decide) w_131 rfl
theorem k_55_55 : Ok M55 55 (oS (gKo (.int 6)) 57) := r_bipush (n := 6) (by decide +kernel) (by decide +kernel)
theorem k_55_57 : Ok M55 57 (oB2 b_icmp_ge q_ge 72 60) := r_icmp_ge (off := 15) (by decide +kernel) (by decide +kernel)
theorem k_55_60 : Ok M55 60 (oLA 0 61) := r_aload_n (j := 0) (by decide +kernel) rfl
theorem k_55_61 : Ok M55 61 (oLA 1 62) := r_aload_n (j := 1) (by decide +kernel) rfl
theorem k_55_62 : Ok M55 62 (oCV 3 56 1) := r_callV (idx := 63) (by decide +kernel) w_354 cv_56
theorem k_55_65 : Ok M55 65 (oB1 b_if_eq q_eq 72 68) := r_if_eq (off := 7) (by decide +kernel) (by decide +kernel)
theorem k_55_68 : Ok M55 68 (oS (gKo (.int 1)) 69) := r_iconst (n := 1) (by decide +kernel) (by decide +kernel)
theorem k_55_69 : Ok M55 69 (oGo 73) := r_goto (off := 4) (by decide +kernel) (by decide +kernel)
theorem k_55_72 : Ok M55 72 (oS (gKo (.int 0)) 73) := r_iconst (n := 0) (by decide +kernel) (by decide +kernel)
theorem k_55_73 : Ok M55 73 (oRZ) := r_zreturn rfl (by decide +kernel)
theorem k_55_74 : Ok M55 74 (oLA 0 75) := r_aload_n (j := 0) (by decide +kernel) rfl
theorem k_55_75 : Ok M55 75 (oLA 1 76) := r_aload_n (j := 1) (by decide +kernel) rfl
theorem k_55_76 : Ok M55 76 (oCV 3 57 1) := r_callV (idx := 66) (by decide +kernel) w_377 cv_57
theorem k_55_79 : Ok M55 79 (oRZ) := r_zreturn rfl (by decide +kernel)
theorem k_55_80 : Ok M55 80 (oLA 1 81) := r_aload_n (j := 1) (by decide +kernel) rfl
theorem k_55_81 : Ok M55 81 (oGe 0 2 84) := r_get (idx := 55) (by decide +kernel) cd_0 2 (by decide) w_137 rfl
theorem k_55_84 : Ok M55 84 (oS (gKo (.int 4)) 85) := r_iconst (n := 4) (by decide +kernel) (by decide +kernel)
theorem k_55_85 : Ok M55 85 (oB2 b_icmp_ge q_ge 100 88) := r_icmp_ge (off := 15) (by decide +kernel) (by decide +kernel)
theorem k_55_88 : Ok M55 88 (oLA 0 89) := r_aload_n (j := 0) (by decide +kernel) rfl
theorem k_55_89 : Ok M55 89 (oLA 1 90) := r_aload_n (j := 1) (by decide +kernel) rfl
theorem k_55_90 : Ok M55 90 (oCV 3 58 1) := r_callV (idx := 69) (by decide +kernel) w_385 cv_58
theorem k_55_93 : Ok M55 93 (oB1 b_if_eq q_eq 100 96) := r_if_eq (off := 7) (by decide +kernel) (by decide +kernel)
theorem k_55_96 : Ok M55 96 (oS (gKo (.int 1)) 97) := r_iconst (n := 1) (by decide +kernel) (by decide +kernel)
theorem k_55_97 : Ok M55 97 (oGo 101) := r_goto (off := 4) (by decide +kernel) (by decide +kernel)
theorem k_55_100 : Ok M55 100 (oS (gKo (.int 0)) 101) := r_iconst (n := 0) (by decide +kernel) (by decide +kernel)
theorem k_55_101 : Ok M55 101 (oRZ) := r_zreturn rfl (by decide +kernel)
theorem k_55_102 : Ok M55 102 (oS (gKo (.int 0)) 103) := r_iconst (n := 0) (by decide +kernel) (by decide +kernel)
theorem k_55_103 : Ok M55 103 (oRZ) := r_zreturn rfl (by decide +kernel)
def B55_0 : List (Nat × aO) := [(0, oLA 0 1), (1, oS (gKo (.int 0)) 2), (2, oS (gKo (.int 0)) 3), (3, oCV 3 53 2), (6, oLA 0 7), (7, oCV 3 52 0), (10, oLu 10 (#[(37, 64), (43, 70), (61, 34)] : Array (Int × Int)).toList 92), (44, oLA 1 45)]
theorem B55_0_ok : ∀ q ∈ B55_0, Ok M55 q.1 q.2 := List.forall_mem_cons.mpr ⟨k_55_0, List.forall_mem_cons.mpr ⟨k_55_1, List.forall_mem_cons.mpr ⟨k_55_2, List.forall_mem_cons.mpr ⟨k_55_3, List.forall_mem_cons.mpr ⟨k_55_6, List.forall_mem_cons.mpr ⟨k_55_7, List.forall_mem_cons.mpr ⟨k_55_10, List.forall_mem_cons.mpr ⟨k_55_44, fun _ h => absurd h List.not_mem_nil⟩⟩⟩⟩⟩⟩⟩⟩
def B55_1 : List (Nat × aO) := [(45, oGe 0 2 48), (48, oB1 b_if_ne q_ne 72 51), (51, oLA 1 52), (52, oGe 0 0 55), (55, oS (gKo (.int 6)) 57), (57, oB2 b_icmp_ge q_ge 72 60), (60, oLA 0 61), (61, oLA 1 62)]
theorem B55_1_ok : ∀ q ∈ B55_1, Ok M55 q.1 q.2 := List.forall_mem_cons.mpr ⟨k_55_45, List.forall_mem_cons.mpr ⟨k_55_48, List.forall_mem_cons.mpr ⟨k_55_51, List.forall_mem_cons.mpr ⟨k_55_52, List.forall_mem_cons.mpr ⟨k_55_55, List.forall_mem_cons.mpr ⟨k_55_57, List.forall_mem_cons.mpr ⟨k_55_60, List.forall_mem_cons.mpr ⟨k_55_61, fun _ h => absurd h List.not_mem_nil⟩⟩⟩⟩⟩⟩⟩⟩
def B55_2 : List (Nat × aO) := [(62, oCV 3 56 1), (65, oB1 b_if_eq q_eq 72 68), (68, oS (gKo (.int 1)) 69), (69, oGo 73), (72, oS (gKo (.int 0)) 73), (73, oRZ), (74, oLA 0 75), (75, oLA 1 76)]
theorem B55_2_ok : ∀ q ∈ B55_2, Ok M55 q.1 q.2 := List.forall_mem_cons.mpr ⟨k_55_62, List.forall_mem_cons.mpr ⟨k_55_65, List.forall_mem_cons.mpr ⟨k_55_68, List.forall_mem_cons.mpr ⟨k_55_69, List.forall_mem_cons.mpr ⟨k_55_72, List.forall_mem_cons.mpr ⟨k_55_73, List.forall_mem_cons.mpr ⟨k_55_74, List.forall_mem_cons.mpr ⟨k_55_75, fun _ h => absurd h List.not_mem_nil⟩⟩⟩⟩⟩⟩⟩⟩
def B55_3 : List (Nat × aO) := [(76, oCV 3 57 1), (79, oRZ), (80, oLA 1 81), (81, oGe 0 2 84), (84, oS (gKo (.int 4)) 85), (85, oB2 b_icmp_ge q_ge 100 88), (88, oLA 0 89), (89, oLA 1 90)]
theorem B55_3_ok : ∀ q ∈ B55_3, Ok M55 q.1 q.2 := List.forall_mem_cons.mpr ⟨k_55_76, List.forall_mem_cons.mpr ⟨k_55_79, List.forall_mem_cons.mpr ⟨k_55_80, List.forall_mem_cons.mpr ⟨k_55_81, List.forall_mem_cons.mpr ⟨k_55_84, List.forall_mem_cons.mpr ⟨k_55_85, List.forall_mem_cons.mpr ⟨k_55_88, List.forall_mem_cons.mpr ⟨k_55_89, fun _ h => absurd h List.not_mem_nil⟩⟩⟩⟩⟩⟩⟩⟩
def B55_4 : List (Nat × aO) := [(90, oCV 3 58 1), (93, oB1 b_if_eq q_eq 100 96), (96, oS (gKo (.int 1)) 97), (97, oGo 101), (100, oS (gKo (.int 0)) 101), (101, oRZ), (102, oS (gKo (.int 0)) 103), (103, oRZ)]
theorem B55_4_ok : ∀ q ∈ B55_4, Ok M55 q.1 q.2 := List.forall_mem_cons.mpr ⟨k_55_90, List.forall_mem_cons.mpr ⟨k_55_93, List.forall_mem_cons.mpr ⟨k_55_96, List.forall_mem_cons.mpr ⟨k_55_97, List.forall_mem_cons.mpr ⟨k_55_100, List.forall_mem_cons.mpr ⟨k_55_101, List.forall_mem_cons.mpr ⟨k_55_102, List.forall_mem_cons.mpr ⟨k_55_103, fun _ h => absurd h List.not_mem_nil⟩⟩⟩⟩⟩⟩⟩⟩
def P55 : List (Nat × List (Nat × aO)) := [(44, B55_0), (61, B55_1), (75, B55_2), (89, B55_3), (103, B55_4)]
theorem P55_ok : ∀ b ∈ P55, ∀ q ∈ b.2, Ok M55 q.1 q.2 := List.forall_mem_cons.mpr ⟨B55_0_ok, List.forall_mem_cons.mpr ⟨B55_1_ok, List.forall_mem_cons.mpr ⟨B55_2_ok, List.forall_mem_cons.mpr ⟨B55_3_ok, List.forall_mem_cons.mpr ⟨B55_4_ok, fun _ h => absurd h List.not_mem_nil⟩⟩⟩⟩⟩
theorem k_56_0 : Ok M56 0 (oLA 0 1) := r_aload_n (j := 0) (by decide +kernel) rfl
theorem k_56_1 : Ok M56 1 (oS gDu 2) := r_dup (by decide +kernel)
theorem k_56_2 : Ok M56 2 (oGe 3 3 5) := r_get (idx := 22) (by decide +kernel) cd_3 3 (by decide) w_102 rfl
theorem k_56_5 : Ok M56 5 (oS (gKo (.int 1)) 6) := r_iconst (n := 1) (by decide +kernel) (by decide +kernel)
theorem k_56_6 : Ok M56 6 (oS (gI2 f_iadd) 7) := r_iadd (by decide +kernel)
theorem k_56_7 : Ok M56 7 (oPI 3 3 10) := r_putI (idx := 22) (by decide +kernel) cd_3 3 (by decide) w_102 rfl rfl (by decide +kernel)
theorem k_56_10 : Ok M56 10 (oLA 1 11) := r_aload_n (j := 1) (by decide +kernel) rfl
theorem k_56_11 : Ok M56 11 (oCV 0 10 0) := r_callV (idx := 72) (by decide +kernel) w_358 cv_10
theorem k_56_14 : Ok M56 14 (oSI 2 6 15) := r_istore_n (j := 2) (by decide +kernel) rfl
theorem k_56_15 : Ok M56 15 (oS (gKo (.int 0)) 16) := r_iconst (n := 0) (by decide +kernel) (by decide +kernel)
theorem k_56_16 : Ok M56 16 (oSI 3 6 17) := r_istore_n (j := 3) (by decide +kernel) rfl
theorem k_56_17 : Ok M56 17 (oS (gKo (.int 0)) 18) := r_iconst (n := 0) (by decide +kernel) (by decide +kernel)
theorem k_56_18 : Ok M56 18 (oSI 4 6 20) := r_istore (by decide +kernel)
theorem k_56_20 : Ok M56 20 (oLI 4 22) := r_iload (by decide +kernel)
theorem k_56_22 : Ok M56 22 (oS (gKo (.int 12)) 24) := r_bipush (n := 12) (by decide +kernel) (by decide +kernel)
theorem k_56_24 : Ok M56 24 (oB2 b_icmp_gt q_gt 124 27) := r_icmp_gt (off := 100) (by decide +kernel) (by decide +kernel)
theorem k_56_27 : Ok M56 27 (oLA 0 28) := r_aload_n (j := 0) (by decide +kernel) rfl
theorem k_56_28 : Ok M56 28 (oCV 3 52 0) := r_callV (idx := 47) (by decide +kernel) w_350 cv_52
theorem k_56_31 : Ok M56 31 (oS (gKo (.int 97)) 33) := r_bipush (n := 97) (by decide +kernel) (by decide +kernel)
theorem k_56_33 : Ok M56 33 (oB2 b_icmp_lt q_lt 49 36) := r_icmp_lt (off := 16) (by decide +kernel) (by decide +kernel)
theorem k_56_36 : Ok M56 36 (oLA 0 37) := r_aload_n (j := 0) (by decide +kernel) rfl
theorem k_56_37 : Ok M56 37 (oCV 3 52 0) := r_callV (idx := 47) (by decide +kernel) w_350 cv_52
theorem k_56_40 : Ok M56 40 (oS (gKo (.int 109)) 42) := r_bipush (n := 109) (by decide +kernel) (by decide +kernel)
theorem k_56_42 : Ok M56 42 (oB2 b_icmp_ge q_ge 49 45) := r_icmp_ge (off := 7) (by decide +kernel) (by decide +kernel)
theorem k_56_45 : Ok M56 45 (oS (gKo (.int 1)) 46) := r_iconst (n := 1) (by decide +kernel) (by decide +kernel)
theorem k_56_46 : Ok M56 46 (oGo 50) := r_goto (off := 4) (by decide +kernel) (by decide +kernel)
theorem k_56_49 : Ok M56 49 (oS (gKo (.int 0)) 50) := r_iconst (n := 0) (by decide +kernel) (by decide +kernel)
theorem k_56_50 : Ok M56 50 (oSI 5 6 52) := r_istore (by decide +kernel)
theorem k_56_52 : Ok M56 52 (oLI 4 54) := r_iload (by decide +kernel)
theorem k_56_54 : Ok M56 54 (oB1 b_if_le q_le 65 57) := r_if_le (off := 11) (by decide +kernel) (by decide +kernel)
theorem k_56_57 : Ok M56 57 (oLI 5 59) := r_iload (by decide +kernel)
theorem k_56_59 : Ok M56 59 (oB1 b_if_ne q_ne 65 62) := r_if_ne (off := 6) (by decide +kernel) (by decide +kernel)
theorem k_56_62 : Ok M56 62 (oGo 124) := r_goto (off := 62) (by decide +kernel) (by decide +kernel)
theorem k_56_65 : Ok M56 65 (oLA 0 66) := r_aload_n (j := 0) (by decide +kernel) rfl
theorem k_56_66 : Ok M56 66 (oS (gKo (.int 1)) 67) := r_iconst (n := 1) (by decide +kernel) (by decide +kernel)
theorem k_56_67 : Ok M56 67 (oLI 4 69) := r_iload (by decide +kernel)
theorem k_56_69 : Ok M56 69 (oCV 3 53 2) := r_callV (idx := 51) (by decide +kernel) w_346 cv_53
theorem k_56_72 : Ok M56 72 (oLI 5 74) := r_iload (by decide +kernel)
theorem k_56_74 : Ok M56 74 (oB1 b_if_eq q_eq 94 77) := r_if_eq (off := 20) (by decide +kernel) (by decide +kernel)
theorem k_56_77 : Ok M56 77 (oLI 2 78) := r_iload_n (j := 2) (by decide +kernel) rfl
theorem k_56_78 : Ok M56 78 (oLI 3 79) := r_iload_n (j := 3) (by decide +kernel) rfl
theorem k_56_79 : Ok M56 79 (oS (gI2 f_ior) 80) := r_ior (by decide +kernel)
theorem k_56_80 : Ok M56 80 (oLA 0 81) := r_aload_n (j := 0) (by decide +kernel) rfl
theorem k_56_81 : Ok M56 81 (oCV 3 52 0) := r_callV (idx := 47) (by decide +kernel) w_350 cv_52
theorem k_56_84 : Ok M56 84 (oS (gKo (.int 97)) 86) := r_bipush (n := 97) (by decide +kernel) (by decide +kernel)
theorem k_56_86 : Ok M56 86 (oS (gI2 f_isub) 87) := r_isub (by decide +kernel)
theorem k_56_87 : Ok M56 87 (oCS 94 2) := r_callSN (idx := 75) (host := RX4) (by decide +kernel) (fun _ _ h => h.2.2.2.2.1) cs_94
theorem k_56_90 : Ok M56 90 (oS (gKo (.int 1)) 91) := r_iconst (n := 1) (by decide +kernel) (by decide +kernel)
theorem k_56_91 : Ok M56 91 (oB2 b_icmp_ne q_ne 96 94) := r_icmp_ne (off := 5) (by decide +kernel) (by decide +kernel)
theorem k_56_94 : Ok M56 94 (oS (gKo (.int 0)) 95) := r_iconst (n := 0) (by decide +kernel) (by decide +kernel)
theorem k_56_95 : Ok M56 95 (oRZ) := r_zreturn rfl (by decide +kernel)
theorem k_56_96 : Ok M56 96 (oLI 3 97) := r_iload_n (j := 3) (by decide +kernel) rfl
theorem k_56_97 : Ok M56 97 (oS (gKo (.int 1)) 98) := r_iconst (n := 1) (by decide +kernel) (by decide +kernel)
theorem k_56_98 : Ok M56 98 (oLA 0 99) := r_aload_n (j := 0) (by decide +kernel) rfl
theorem k_56_99 : Ok M56 99 (oCV 3 52 0) := r_callV (idx := 47) (by decide +kernel) w_350 cv_52
theorem k_56_102 : Ok M56 102 (oS (gKo (.int 97)) 104) := r_bipush (n := 97) (by decide +kernel) (by decide +kernel)
theorem k_56_104 : Ok M56 104 (oS (gI2 f_isub) 105) := r_isub (by decide +kernel)
theorem k_56_105 : Ok M56 105 (oS (gI2 f_ishl) 106) := r_ishl (by decide +kernel)
theorem k_56_106 : Ok M56 106 (oS (gI2 f_ior) 107) := r_ior (by decide +kernel)
theorem k_56_107 : Ok M56 107 (oSI 3 6 108) := r_istore_n (j := 3) (by decide +kernel) rfl
theorem k_56_108 : Ok M56 108 (oLA 0 109) := r_aload_n (j := 0) (by decide +kernel) rfl
theorem k_56_109 : Ok M56 109 (oS gDu 110) := r_dup (by decide +kernel)
theorem k_56_110 : Ok M56 110 (oGe 3 3 113) := r_get (idx := 22) (by decide +kernel) cd_3 3 (by decide) w_102 rfl
theorem k_56_113 : Ok M56 113 (oS (gKo (.int 1)) 114) := r_iconst (n := 1) (by decide +kernel) (by decide +kernel)
theorem k_56_114 : Ok M56 114 (oS (gI2 f_iadd) 115) := r_iadd (by decide +kernel)
theorem k_56_115 : Ok M56 115 (oPI 3 3 118) := r_putI (idx := 22) (by decide +kernel) cd_3 3 (by decide) w_102 rfl rfl (by decide +kernel)
theorem k_56_118 : Ok M56 118 (oInc 4 1 6 121) := r_iinc (n := 1) (by decide +kernel) (by decide +kernel)
theorem k_56_121 : Ok M56 121 (oGo 20) := r_goto (off := (-101)) (by decide +kernel) (by decide +kernel)
theorem k_56_124 : Ok M56 124 (oLA 1 125) := r_aload_n (j := 1) (by decide +kernel) rfl
theorem k_56_125 : Ok M56 125 (oLI 3 126) := r_iload_n (j := 3) (by decide +kernel) rfl
theorem k_56_126 : Ok M56 126 (oCV 0 13 1) := r_callV (idx := 79) (by decide +kernel) w_365 cv_13
theorem k_56_129 : Ok M56 129 (oLA 0 130) := r_aload_n (j := 0) (by decide +kernel) rfl
theorem k_56_130 : Ok M56 130 (oCV 3 60 0) := r_callV (idx := 83) (by decide +kernel) w_369 cv_60
theorem k_56_133 : Ok M56 133 (oRZ) := r_zreturn rfl (by decide +kernel)
def B56_0 : List (Nat × aO) := [(0, oLA 0 1), (1, oS gDu 2), (2, oGe 3 3 5), (5, oS (gKo (.int 1)) 6), (6, oS (gI2 f_iadd) 7), (7, oPI 3 3 10), (10, oLA 1 11), (11, oCV 0 10 0)]
theorem B56_0_ok : ∀ q ∈ B56_0, Ok M56 q.1 q.2 := List.forall_mem_cons.mpr ⟨k_56_0, List.forall_mem_cons.mpr ⟨k_56_1, List.forall_mem_cons.mpr ⟨k_56_2, List.forall_mem_cons.mpr ⟨k_56_5, List.forall_mem_cons.mpr ⟨k_56_6, List.forall_mem_cons.mpr ⟨k_56_7, List.forall_mem_cons.mpr ⟨k_56_10, List.forall_mem_cons.mpr ⟨k_56_11, fun _ h => absurd h List.not_mem_nil⟩⟩⟩⟩⟩⟩⟩⟩
def B56_1 : List (Nat × aO) := [(14, oSI 2 6 15), (15, oS (gKo (.int 0)) 16), (16, oSI 3 6 17), (17, oS (gKo (.int 0)) 18), (18, oSI 4 6 20), (20, oLI 4 22), (22, oS (gKo (.int 12)) 24), (24, oB2 b_icmp_gt q_gt 124 27)]
theorem B56_1_ok : ∀ q ∈ B56_1, Ok M56 q.1 q.2 := List.forall_mem_cons.mpr ⟨k_56_14, List.forall_mem_cons.mpr ⟨k_56_15, List.forall_mem_cons.mpr ⟨k_56_16, List.forall_mem_cons.mpr ⟨k_56_17, List.forall_mem_cons.mpr ⟨k_56_18, List.forall_mem_cons.mpr ⟨k_56_20, List.forall_mem_cons.mpr ⟨k_56_22, List.forall_mem_cons.mpr ⟨k_56_24, fun _ h => absurd h List.not_mem_nil⟩⟩⟩⟩⟩⟩⟩⟩
def B56_2 : List (Nat × aO) := [(27, oLA 0 28), (28, oCV 3 52 0), (31, oS (gKo (.int 97)) 33), (33, oB2 b_icmp_lt q_lt 49 36), (36, oLA 0 37), (37, oCV 3 52 0), (40, oS (gKo (.int 109)) 42), (42, oB2 b_icmp_ge q_ge 49 45)]
theorem B56_2_ok : ∀ q ∈ B56_2, Ok M56 q.1 q.2 := List.forall_mem_cons.mpr ⟨k_56_27, List.forall_mem_cons.mpr ⟨k_56_28, List.forall_mem_cons.mpr ⟨k_56_31, List.forall_mem_cons.mpr ⟨k_56_33, List.forall_mem_cons.mpr ⟨k_56_36, List.forall_mem_cons.mpr ⟨k_56_37, List.forall_mem_cons.mpr ⟨k_56_40, List.forall_mem_cons.mpr ⟨k_56_42, fun _ h => absurd h List.not_mem_nil⟩⟩⟩⟩⟩⟩⟩⟩
def B56_3 : List (Nat × aO) := [(45, oS (gKo (.int 1)) 46), (46, oGo 50), (49, oS (gKo (.int 0)) 50), (50, oSI 5 6 52), (52, oLI 4 54), (54, oB1 b_if_le q_le 65 57), (57, oLI 5 59), (59, oB1 b_if_ne q_ne 65 62)]
theorem B56_3_ok : ∀ q ∈ B56_3, Ok M56 q.1 q.2 := List.forall_mem_cons.mpr ⟨k_56_45, List.forall_mem_cons.mpr ⟨k_56_46, List.forall_mem_cons.mpr ⟨k_56_49, List.forall_mem_cons.mpr ⟨k_56_50, List.forall_mem_cons.mpr ⟨k_56_52, List.forall_mem_cons.mpr ⟨k_56_54, List.forall_mem_cons.mpr ⟨k_56_57, List.forall_mem_cons.mpr ⟨k_56_59, fun _ h => absurd h List.not_mem_nil⟩⟩⟩⟩⟩⟩⟩⟩
def B56_4 : List (Nat × aO) := [(62, oGo 124), (65, oLA 0 66), (66, oS (gKo (.int 1)) 67), (67, oLI 4 69), (69, oCV 3 53 2), (72, oLI 5 74), (74, oB1 b_if_eq q_eq 94 77), (77, oLI 2 78)]
theorem B56_4_ok : ∀ q ∈ B56_4, Ok M56 q.1 q.2 := List.forall_mem_cons.mpr ⟨k_56_62, List.forall_mem_cons.mpr ⟨k_56_65, List.forall_mem_cons.mpr ⟨k_56_66, List.forall_mem_cons.mpr ⟨k_56_67, List.forall_mem_cons.mpr ⟨k_56_69, List.forall_mem_cons.mpr ⟨k_56_72, List.forall_mem_cons.mpr ⟨k_56_74, List.forall_mem_cons.mpr ⟨k_56_77, fun _ h => absurd h List.not_mem_nil⟩⟩⟩⟩⟩⟩⟩⟩
def B56_5 : List (Nat × aO) := [(78, oLI 3 79), (79, oS (gI2 f_ior) 80), (80, oLA 0 81), (81, oCV 3 52 0), (84, oS (gKo (.int 97)) 86), (86, oS (gI2 f_isub) 87), (87, oCS 94 2), (90, oS (gKo (.int 1)) 91)]
theorem B56_5_ok : ∀ q ∈ B56_5, Ok M56 q.1 q.2 := List.forall_mem_cons.mpr ⟨k_56_78, List.forall_mem_cons.mpr ⟨k_56_79, List.forall_mem_cons.mpr ⟨k_56_80, List.forall_mem_cons.mpr ⟨k_56_81, List.forall_mem_cons.mpr ⟨k_56_84, List.forall_mem_cons.mpr ⟨k_56_86, List.forall_mem_cons.mpr ⟨k_56_87, List.forall_mem_cons.mpr ⟨k_56_90, fun _ h => absurd h List.not_mem_nil⟩⟩⟩⟩⟩⟩⟩⟩
def B56_6 : List (Nat × aO) := [(91, oB2 b_icmp_ne q_ne 96 94), (94, oS (gKo (.int 0)) 95), (95, oRZ), (96, oLI 3 97), (97, oS (gKo (.int 1)) 98), (98, oLA 0 99), (99, oCV 3 52 0), (102, oS (gKo (.int 97)) 104)]
theorem B56_6_ok : ∀ q ∈ B56_6, Ok M56 q.1 q.2 := List.forall_mem_cons.mpr ⟨k_56_91, List.forall_mem_cons.mpr ⟨k_56_94, List.forall_mem_cons.mpr ⟨k_56_95, List.forall_mem_cons.mpr ⟨k_56_96, List.forall_mem_cons.mpr ⟨k_56_97, List.forall_mem_cons.mpr ⟨k_56_98, List.forall_mem_cons.mpr ⟨k_56_99, List.forall_mem_cons.mpr ⟨k_56_102, fun _ h => absurd h List.not_mem_nil⟩⟩⟩⟩⟩⟩⟩⟩
def B56_7 : List (Nat × aO) := [(104, oS (gI2 f_isub) 105), (105, oS (gI2 f_ishl) 106), (106, oS (gI2 f_ior) 107), (107, oSI 3 6 108), (108, oLA 0 109), (109, oS gDu 110), (110, oGe 3 3 113), (113, oS (gKo (.int 1)) 114)]
theorem B56_7_ok : ∀ q ∈ B56_7, Ok M56 q.1 q.2 := List.forall_mem_cons.mpr ⟨k_56_104, List.forall_mem_cons.mpr ⟨k_56_105, List.forall_mem_cons.mpr ⟨k_56_106, List.forall_mem_cons.mpr ⟨k_56_107, List.forall_mem_cons.mpr ⟨k_56_108, List.forall_mem_cons.mpr ⟨k_56_109, List.forall_mem_cons.mpr ⟨k_56_110, List.forall_mem_cons.mpr ⟨k_56_113, fun _ h => absurd h List.not_mem_nil⟩⟩⟩⟩⟩⟩⟩⟩
def B56_8 : List (Nat × aO) := [(114, oS (gI2 f_iadd) 115), (115, oPI 3 3 118), (118, oInc 4 1 6 121), (121, oGo 20), (124, oLA 1 125), (125, oLI 3 126), (126, oCV 0 13 1), (129, oLA 0 130)]
theorem B56_8_ok : ∀ q ∈ B56_8, Ok M56 q.1 q.2 := List.forall_mem_cons.mpr ⟨k_56_114, List.forall_mem_cons.mpr ⟨k_56_115, List.forall_mem_cons.mpr ⟨k_56_118, List.forall_mem_cons.mpr ⟨k_56_121, List.forall_mem_cons.mpr ⟨k_56_124, List.forall_mem_cons.mpr ⟨k_56_125, List.forall_mem_cons.mpr ⟨k_56_126, List.forall_mem_cons.mpr ⟨k_56_129, fun _ h => absurd h List.not_mem_nil⟩⟩⟩⟩⟩⟩⟩⟩
def B56_9 : List (Nat × aO) := [(130, oCV 3 60 0), (133, oRZ)]
theorem B56_9_ok : ∀ q ∈ B56_9, Ok M56 q.1 q.2 := List.forall_mem_cons.mpr ⟨k_56_130, List.forall_mem_cons.mpr ⟨k_56_133, fun _ h => absurd h List.not_mem_nil⟩⟩
def P56 : List (Nat × List (Nat × aO)) := [(11, B56_0), (24, B56_1), (42, B56_2), (59, B56_3), (77, B56_4), (90, B56_5), (102, B56_6), (113, B56_7), (129, B56_8), (133, B56_9)]
theorem P56_ok : ∀ b ∈ P56, ∀ q ∈ b.2, Ok M56 q.1 q.2 := List.forall_mem_cons.mpr ⟨B56_0_ok, List.forall_mem_cons.mpr ⟨B56_1_ok, List.forall_mem_cons.mpr ⟨B56_2_ok, List.forall_mem_cons.mpr ⟨B56_3_ok, List.forall_mem_cons.mpr ⟨B56_4_ok, List.forall_mem_cons.mpr ⟨B56_5_ok, List.forall_mem_cons.mpr ⟨B56_6_ok, List.forall_mem_cons.mpr ⟨B56_7_ok, List.forall_mem_cons.mpr ⟨B56_8_ok, List.forall_mem_cons.mpr ⟨B56_9_ok, fun _ h => absurd h List.not_mem_nil⟩⟩⟩⟩⟩⟩⟩⟩⟩⟩
theorem k_57_0 : Ok M57 0 (oLA 0 1) := r_aload_n (j := 0) (by decide +kernel) rfl
theorem k_57_1 : Ok M57 1 (oS gDu 2) := r_dup (by decide +kernel)
theorem k_57_2 : Ok M57 2 (oGe 3 3 5) := r_get (idx := 22) (by decide +kernel) cd_3 3 (by decide) w_102 rfl
theorem k_57_5 : Ok M57 5 (oS (gKo (.int 1)) 6) := r_iconst (n := 1) (by decide +kernel) (by decide +kernel)
theorem k_57_6 : Ok M57 6 (oS (gI2 f_iadd) 7) := r_iadd (by decide +kernel)
theorem k_57_7 : Ok M57 7 (oPI 3 3 10) := r_putI (idx := 22) (by decide +kernel) cd_3 3 (by decide) w_102 rfl rfl (by decide +kernel)
theorem k_57_10 : Ok M57 10 (oLA 0 11) := r_aload_n (j := 0) (by decide +kernel) rfl
theorem k_57_11 : Ok M57 11 (oS (gKo (.int 2)) 12) := r_iconst (n := 2) (by decide +kernel) (by decide +kernel)
theorem k_57_12 : Ok M57 12 (oS (gKo (.int 0)) 13) := r_iconst (n := 0) (by decide +kernel) (by decide +kernel)
theorem k_57_13 : Ok M57 13 (oCV 3 53 2) := r_callV (idx := 51) (by decide +kernel) w_346 cv_53
theorem k_57_16 : Ok M57 16 (oLA 0 17) := r_aload_n (j := 0) (by decide +kernel) rfl
theorem k_57_17 : Ok M57 17 (oS (gKo (.int 3)) 18) := r_iconst (n := 3) (by decide +kernel) (by decide +kernel)
theorem k_57_18 : Ok M57 18 (oS (gKo (.int 4)) 19) := r_iconst (n := 4) (by decide +kernel) (by decide +kernel)
theorem k_57_19 : Ok M57 19 (oCV 3 61 2) := r_callV (idx := 87) (by decide +kernel) w_381 cv_61
theorem k_57_22 : Ok M57 22 (oSI 2 3 23) := r_istore_n (j := 2) (by decide +kernel) rfl
theorem k_57_23 : Ok M57 23 (oLI 2 24) := r_iload_n (j := 2) (by decide +kernel) rfl
theorem k_57_24 : Ok M57 24 (oS (gKo (.int (-1))) 25) := r_iconst (n := (-1)) (by decide +kernel) (by decide +kernel)
theorem k_57_25 : Ok M57 25 (oB2 b_icmp_ne q_ne 30 28) := r_icmp_ne (off := 5) (by decide +kernel) (by decide +kernel)
theorem k_57_28 : Ok M57 28 (oS (gKo (.int 0)) 29) := r_iconst (n := 0) (by decide +kernel) (by decide +kernel)
theorem k_57_29 : Ok M57 29 (oRZ) := r_zreturn rfl (by decide +kernel)
theorem k_57_30 : Ok M57 30 (oLA 1 31) := r_aload_n (j := 1) (by decide +kernel) rfl
theorem k_57_31 : Ok M57 31 (oLI 2 32) := r_iload_n (j := 2) (by decide +kernel) rfl
theorem k_57_32 : Ok M57 32 (oPI 0 6 35) := r_putI (idx := 90) (by decide +kernel) cd_0 6 (by decide) w_145 rfl rfl (by decide +kernel)
theorem k_57_35 : Ok M57 35 (oLA 0 36) := r_aload_n (j := 0) (by decide +kernel) rfl
theorem k_57_36 : Ok M57 36 (oCV 3 60 0) := r_callV (idx := 83) (by decide +kernel) w_369 cv_60
theorem k_57_39 : Ok M57 39 (oRZ) := r_zreturn rfl (by decide +kernel)
def B57_0 : List (Nat × aO) := [(0, oLA 0 1), (1, oS gDu 2), (2, oGe 3 3 5), (5, oS (gKo (.int 1)) 6), (6, oS (gI2 f_iadd) 7), (7, oPI 3 3 10), (10, oLA 0 11), (11, oS (gKo (.int 2)) 12)]
theorem B57_0_ok : ∀ q ∈ B57_0, Ok M57 q.1 q.2 := List.forall_mem_cons.mpr ⟨k_57_0, List.forall_mem_cons.mpr ⟨k_57_1, List.forall_mem_cons.mpr ⟨k_57_2, List.forall_mem_cons.mpr ⟨k_57_5, List.forall_mem_cons.mpr ⟨k_57_6, List.forall_mem_cons.mpr ⟨k_57_7, List.forall_mem_cons.mpr ⟨k_57_10, List.forall_mem_cons.mpr ⟨k_57_11, fun _ h => absurd h List.not_mem_nil⟩⟩⟩⟩⟩⟩⟩⟩
def B57_1 : List (Nat × aO) := [(12, oS (gKo (.int 0)) 13), (13, oCV 3 53 2), (16, oLA 0 17), (17, oS (gKo (.int 3)) 18), (18, oS (gKo (.int 4)) 19), (19, oCV 3 61 2), (22, oSI 2 3 23), (23, oLI 2 24)]
theorem B57_1_ok : ∀ q ∈ B57_1, Ok M57 q.1 q.2 := List.forall_mem_cons.mpr ⟨k_57_12, List.forall_mem_cons.mpr ⟨k_57_13, List.forall_mem_cons.mpr ⟨k_57_16, List.forall_mem_cons.mpr ⟨k_57_17, List.forall_mem_cons.mpr ⟨k_57_18, List.forall_mem_cons.mpr ⟨k_57_19, List.forall_mem_cons.mpr ⟨k_57_22, List.forall_mem_cons.mpr ⟨k_57_23, fun _ h => absurd h List.not_mem_nil⟩⟩⟩⟩⟩⟩⟩⟩
def B57_2 : List (Nat × aO) := [(24, oS (gKo (.int (-1))) 25), (25, oB2 b_icmp_ne q_ne 30 28), (28, oS (gKo (.int 0)) 29), (29, oRZ), (30, oLA 1 31), (31, oLI 2 32), (32, oPI 0 6 35), (35, oLA 0 36)]
theorem B57_2_ok : ∀ q ∈ B57_2, Ok M57 q.1 q.2 := List.forall_mem_cons.mpr ⟨k_57_24, List.forall_mem_cons.mpr ⟨k_57_25, List.forall_mem_cons.mpr ⟨k_57_28, List.forall_mem_cons.mpr ⟨k_57_29, List.forall_mem_cons.mpr ⟨k_57_30, List.forall_mem_cons.mpr ⟨k_57_31, List.forall_mem_cons.mpr ⟨k_57_32, List.forall_mem_cons.mpr ⟨k_57_35, fun _ h => absurd h List.not_mem_nil⟩⟩⟩⟩⟩⟩⟩⟩
def B57_3 : List (Nat × aO) := [(36, oCV 3 60 0), (39, oRZ)]
theorem B57_3_ok : ∀ q ∈ B57_3, Ok M57 q.1 q.2 := List.forall_mem_cons.mpr ⟨k_57_36, List.forall_mem_cons.mpr ⟨k_57_39, fun _ h => absurd h List.not_mem_nil⟩⟩
def P57 : List (Nat × List (Nat × aO)) := [(11, B57_0), (23, B57_1), (35, B57_2), (39, B57_3)]
theorem P57_ok : ∀ b ∈ P57, ∀ q ∈ b.2, Ok M57 q.1 q.2 := List.forall_mem_cons.mpr ⟨B57_0_ok, List.forall_mem_cons.mpr ⟨B57_1_ok, List.forall_mem_cons.mpr ⟨B57_2_ok, List.forall_mem_cons.mpr ⟨B57_3_ok, fun _ h => absurd h List.not_mem_nil⟩⟩⟩⟩
theorem k_58_0 : Ok M58 0 (oLA 0 1) := r_aload_n (j := 0) (by decide +kernel) rfl
theorem k_58_1 : Ok M58 1 (oS gDu 2) := r_dup (by decide +kernel)
theorem k_58_2 : Ok M58 2 (oGe 3 3 5) := r_get (idx := 22) (by decide +kernel) cd_3 3 (by decide) w_102 rfl
theorem k_58_5 : Ok M58 5 (oS (gKo (.int 1)) 6) := r_iconst (n := 1) (by decide +kernel) (by decide +kernel)
theorem k_58_6 : Ok M58 6 (oS (gI2 f_iadd) 7) := r_iadd (by decide +kernel)
theorem k_58_7 : Ok M58 7 (oPI 3 3 10) := r_putI (idx := 22) (by decide +kernel) cd_3 3 (by decide) w_102 rfl rfl (by decide +kernel)
theorem k_58_10 : Ok M58 10 (oLA 0 11) := r_aload_n (j := 0) (by decide +kernel) rfl
theorem k_58_11 : Ok M58 11 (oS (gKo (.int 3)) 12) := r_iconst (n := 3) (by decide +kernel) (by decide +kernel)
theorem k_58_12 : Ok M58 12 (oS (gKo (.int 0)) 13) := r_iconst (n := 0) (by decide +kernel) (by decide +kernel)
theorem k_58_13 : Ok M58 13 (oCV 3 53 2) := r_callV (idx := 51) (by decide +kernel) w_346 cv_53
theorem k_58_16 : Ok M58 16 (oLA 0 17) := r_aload_n (j := 0) (by decide +kernel) rfl
theorem k_58_17 : Ok M58 17 (oCV 3 52 0) := r_callV (idx := 47) (by decide +kernel) w_350 cv_52
theorem k_58_20 : Ok M58 20 (oS (gKo (.int 48)) 22) := r_bipush (n := 48) (by decide +kernel) (by decide +kernel)
theorem k_58_22 : Ok M58 22 (oB2 b_icmp_ne q_ne 27 25) := r_icmp_ne (off := 5) (by decide +kernel) (by decide +kernel)
theorem k_58_25 : Ok M58 25 (oS (gKo (.int 0)) 26) := r_iconst (n := 0) (by decide +kernel) (by decide +kernel)
theorem k_58_26 : Ok M58 26 (oRZ) := r_zreturn rfl (by decide +kernel)
theorem k_58_27 : Ok M58 27 (oLA 0 28) := r_aload_n (j := 0) (by decide +kernel) rfl
theorem k_58_28 : Ok M58 28 (oS (gKo (.int 3)) 29) := r_iconst (n := 3) (by decide +kernel) (by decide +kernel)
theorem k_58_29 : Ok M58 29 (oS (gKo (.int 999)) 32) := r_sipush (n := 999) (by decide +kernel) (by decide +kernel)
theorem k_58_32 : Ok M58 32 (oCV 3 61 2) := r_callV (idx := 87) (by decide +kernel) w_381 cv_61
theorem k_58_35 : Ok M58 35 (oSI 2 4 36) := r_istore_n (j := 2) (by decide +kernel) rfl
theorem k_58_36 : Ok M58 36 (oLI 2 37) := r_iload_n (j := 2) (by decide +kernel) rfl
theorem k_58_37 : Ok M58 37 (oS (gKo (.int (-1))) 38) := r_iconst (n := (-1)) (by decide +kernel) (by decide +kernel)
theorem k_58_38 : Ok M58 38 (oB2 b_icmp_eq q_eq 50 41) := r_icmp_eq (off := 12) (by decide +kernel) (by decide +kernel)
theorem k_58_41 : Ok M58 41 (oLA 0 42) := r_aload_n (j := 0) (by decide +kernel) rfl
theorem k_58_42 : Ok M58 42 (oS (gKo (.int 58)) 44) := r_bipush (n := 58) (by decide +kernel) (by decide +kernel)
theorem k_58_44 : Ok M58 44 (oCV 3 54 1) := r_callV (idx := 93) (by decide +kernel) w_373 cv_54
theorem k_58_47 : Ok M58 47 (oB1 b_if_ne q_ne 52 50) := r_if_ne (off := 5) (by decide +kernel) (by decide +kernel)
theorem k_58_50 : Ok M58 50 (oS (gKo (.int 0)) 51) := r_iconst (n := 0) (by decide +kernel) (by decide +kernel)
theorem k_58_51 : Ok M58 51 (oRZ) := r_zreturn rfl (by decide +kernel)
theorem k_58_52 : Ok M58 52 (oLA 1 53) := r_aload_n (j := 1) (by decide +kernel) rfl
theorem k_58_53 : Ok M58 53 (oGe 0 3 56) := r_get (idx := 97) (by decide +kernel) cd_0 3 (by decide) w_142 rfl
theorem k_58_56 : Ok M58 56 (oLA 1 57) := r_aload_n (j := 1) (by decide +kernel) rfl
theorem k_58_57 : Ok M58 57 (oGe 0 2 60) := r_get (idx := 55) (by decide +kernel) cd_0 2 (by decide) w_137 rfl
theorem k_58_60 : Ok M58 60 (oLI 2 61) := r_iload_n (j := 2) (by decide +kernel) rfl
theorem k_58_61 : Ok M58 61 (oAT 62) := r_iastore (by decide +kernel)
theorem k_58_62 : Ok M58 62 (oS (gKo (.int 0)) 63) := r_iconst (n := 0) (by decide +kernel) (by decide +kernel)
theorem k_58_63 : Ok M58 63 (oSI 3 4 64) := r_istore_n (j := 3) (by decide +kernel) rfl
theorem k_58_64 : Ok M58 64 (oLI 3 65) := r_iload_n (j := 3) (by decide +kernel) rfl
theorem k_58_65 : Ok M58 65 (oLA 1 66) := r_aload_n (j := 1) (by decide +kernel) rfl
theorem k_58_66 : Ok M58 66 (oGe 0 0 69) := r_get (idx := 60) (by decide +kernel) cd_0 0 (by decide) w_131 rfl
theorem k_58_69 : Ok M58 69 (oB2 b_icmp_ge q_ge 89 72) := r_icmp_ge (off := 20) (by decide +kernel) (by decide +kernel)
theorem k_58_72 : Ok M58 72 (oLA 0 73) := r_aload_n (j := 0) (by decide +kernel) rfl
theorem k_58_73 : Ok M58 73 (oLA 1 74) := r_aload_n (j := 1) (by decide +kernel) rfl
theorem k_58_74 : Ok M58 74 (oLI 3 75) := r_iload_n (j := 3) (by decide +kernel) rfl
theorem k_58_75 : Ok M58 75 (oCV 3 59 2) := r_callV (idx := 100) (by decide +kernel) w_389 cv_59
theorem k_58_78 : Ok M58 78 (oB1 b_if_ne q_ne 83 81) := r_if_ne (off := 5) (by decide +kernel) (by decide +kernel)
theorem k_58_81 : Ok M58 81 (oS (gKo (.int 0)) 82) := r_iconst (n := 0) (by decide +kernel) (by decide +kernel)
theorem k_58_82 : Ok M58 82 (oRZ) := r_zreturn rfl (by decide +kernel)
theorem k_58_83 : Ok M58 83 (oInc 3 1 4 86) := r_iinc (n := 1) (by decide +kernel) (by decide +kernel)
theorem k_58_86 : Ok M58 86 (oGo 64) := r_goto (off := (-22)) (by decide +kernel) (by decide +kernel)
theorem k_58_89 : Ok M58 89 (oLA 0 90) := r_aload_n (j := 0) (by decide +kernel) rfl
theorem k_58_90 : Ok M58 90 (oS (gKo (.int 5)) 91) := r_iconst (n := 5) (by decide +kernel) (by decide +kernel)
theorem k_58_91 : Ok M58 91 (oS (gKo (.int 0)) 92) := r_iconst (n := 0) (by decide +kernel) (by decide +kernel)
theorem k_58_92 : Ok M58 92 (oCV 3 53 2) := r_callV (idx := 51) (by decide +kernel) w_346 cv_53
theorem k_58_95 : Ok M58 95 (oLA 1 96) := r_aload_n (j := 1) (by decide +kernel) rfl
theorem k_58_96 : Ok M58 96 (oLA 0 97) := r_aload_n (j := 0) (by decide +kernel) rfl
theorem k_58_97 : Ok M58 97 (oS (gKo (.int 33)) 99) := r_bipush (n := 33) (by decide +kernel) (by decide +kernel)
theorem k_58_99 : Ok M58 99 (oCV 3 54 1) := r_callV (idx := 93) (by decide +kernel) w_373 cv_54
theorem k_58_102 : Ok M58 102 (oCV 0 14 1) := r_callV (idx := 104) (by decide +kernel) w_397 cv_14
theorem k_58_105 : Ok M58 105 (oLA 0 106) := r_aload_n (j := 0) (by decide +kernel) rfl
theorem k_58_106 : Ok M58 106 (oCV 3 60 0) := r_callV (idx := 83) (by decide +kernel) w_369 cv_60
theorem k_58_109 : Ok M58 109 (oRZ) := r_zreturn rfl (by decide +kernel)
def B58_0 : List (Nat × aO) := [(0, oLA 0 1), (1, oS gDu 2), (2, oGe 3 3 5), (5, oS (gKo (.int 1)) 6), (6, oS (gI2 f_iadd) 7), (7, oPI 3 3 10), (10, oLA 0 11), (11, oS (gKo (.int 3)) 12)]
theorem B58_0_ok : ∀ q ∈ B58_0, Ok M58 q.1 q.2 := List.forall_mem_cons.mpr ⟨k_58_0, List.forall_mem_cons.mpr ⟨k_58_1, List.forall_mem_cons.mpr ⟨k_58_2, List.forall_mem_cons.mpr ⟨k_58_5, List.forall_mem_cons.mpr ⟨k_58_6, List.forall_mem_cons.mpr ⟨k_58_7, List.forall_mem_cons.mpr ⟨k_58_10, List.forall_mem_cons.mpr ⟨k_58_11, fun _ h => absurd h List.not_mem_nil⟩⟩⟩⟩⟩⟩⟩⟩
def B58_1 : List (Nat × aO) := [(12, oS (gKo (.int 0)) 13), (13, oCV 3 53 2), (16, oLA 0 17), (17, oCV 3 52 0), (20, oS (gKo (.int 48)) 22), (22, oB2 b_icmp_ne q_ne 27 25), (25, oS (gKo (.int 0)) 26), (26, oRZ)]
theorem B58_1_ok : ∀ q ∈ B58_1, Ok M58 q.1 q.2 := List.forall_mem_cons.mpr ⟨k_58_12, List.forall_mem_cons.mpr ⟨k_58_13, List.forall_mem_cons.mpr ⟨k_58_16, List.forall_mem_cons.mpr ⟨k_58_17, List.forall_mem_cons.mpr ⟨k_58_20, List.forall_mem_cons.mpr ⟨k_58_22, List.forall_mem_cons.mpr ⟨k_58_25, List.forall_mem_cons.mpr ⟨k_58_26, fun _ h => absurd h List.not_mem_nil⟩⟩⟩⟩⟩⟩⟩⟩
def B58_2 : List (Nat × aO) := [(27, oLA 0 28), (28, oS (gKo (.int 3)) 29), (29, oS (gKo (.int 999)) 32), (32, oCV 3 61 2), (35, oSI 2 4 36), (36, oLI 2 37), (37, oS (gKo (.int (-1))) 38), (38, oB2 b_icmp_eq q_eq 50 41)]
theorem B58_2_ok : ∀ q ∈ B58_2, Ok M58 q.1 q.2 := List.forall_mem_cons.mpr ⟨k_58_27, List.forall_mem_cons.mpr ⟨k_58_28, List.forall_mem_cons.mpr ⟨k_58_29, List.forall_mem_cons.mpr ⟨k_58_32, List.forall_mem_cons.mpr ⟨k_58_35, List.forall_mem_cons.mpr ⟨k_58_36, List.forall_mem_cons.mpr ⟨k_58_37, List.forall_mem_cons.mpr ⟨k_58_38, fun _ h => absurd h List.not_mem_nil⟩⟩⟩⟩⟩⟩⟩⟩
def B58_3 : List (Nat × aO) := [(41, oLA 0 42), (42, oS (gKo (.int 58)) 44), (44, oCV 3 54 1), (47, oB1 b_if_ne q_ne 52 50), (50, oS (gKo (.int 0)) 51), (51, oRZ), (52, oLA 1 53), (53, oGe 0 3 56)]
theorem B58_3_ok : ∀ q ∈ B58_3, Ok M58 q.1 q.2 := List.forall_mem_cons.mpr ⟨k_58_41, List.forall_mem_cons.mpr ⟨k_58_42, List.forall_mem_cons.mpr ⟨k_58_44, List.forall_mem_cons.mpr ⟨k_58_47, List.forall_mem_cons.mpr ⟨k_58_50, List.forall_mem_cons.mpr ⟨k_58_51, List.forall_mem_cons.mpr ⟨k_58_52, List.forall_mem_cons.mpr ⟨k_58_53, fun _ h => absurd h List.not_mem_nil⟩⟩⟩⟩⟩⟩⟩⟩
def B58_4 : List (Nat × aO) := [(56, oLA 1 57), (57, oGe 0 2 60), (60, oLI 2 61), (61, oAT 62), (62, oS (gKo (.int 0)) 63), (63, oSI 3 4 64), (64, oLI 3 65), (65, oLA 1 66)]
theorem B58_4_ok : ∀ q ∈ B58_4, Ok M58 q.1 q.2 := List.forall_mem_cons.mpr ⟨k_58_56, List.forall_mem_cons.mpr ⟨k_58_57, List.forall_mem_cons.mpr ⟨k_58_60, List.forall_mem_cons.mpr ⟨k_58_61, List.forall_mem_cons.mpr ⟨k_58_62, List.forall_mem_cons.mpr ⟨k_58_63, List.forall_mem_cons.mpr ⟨k_58_64, List.forall_mem_cons.mpr ⟨k_58_65, fun _ h => absurd h List.not_mem_nil⟩⟩⟩⟩⟩⟩⟩⟩
def B58_5 : List (Nat × aO) := [(66, oGe 0 0 69), (69, oB2 b_icmp_ge q_ge 89 72), (72, oLA 0 73), (73, oLA 1 74), (74, oLI 3 75), (75, oCV 3 59 2), (78, oB1 b_if_ne q_ne 83 81), (81, oS (gKo (.int 0)) 82)]
theorem B58_5_ok : ∀ q ∈ B58_5, Ok M58 q.1 q.2 := List.forall_mem_cons.mpr ⟨k_58_66, List.forall_mem_cons.mpr ⟨k_58_69, List.forall_mem_cons.mpr ⟨k_58_72, List.forall_mem_cons.mpr ⟨k_58_73, List.forall_mem_cons.mpr ⟨k_58_74, List.forall_mem_cons.mpr ⟨k_58_75, List.forall_mem_cons.mpr ⟨k_58_78, List.forall_mem_cons.mpr ⟨k_58_81, fun _ h => absurd h List.not_mem_nil⟩⟩⟩⟩⟩⟩⟩⟩
def B58_6 : List (Nat × aO) := [(82, oRZ), (83, oInc 3 1 4 86), (86, oGo 64), (89, oLA 0 90), (90, oS (gKo (.int 5)) 91), (91, oS (gKo (.int 0)) 92), (92, oCV 3 53 2), (95, oLA 1 96)]
theorem B58_6_ok : ∀ q ∈ B58_6, Ok M58 q.1 q.2 := List.forall_mem_cons.mpr ⟨k_58_82, List.forall_mem_cons.mpr ⟨k_58_83, List.forall_mem_cons.mpr ⟨k_58_86, List.forall_mem_cons.mpr ⟨k_58_89, List.forall_mem_cons.mpr ⟨k_58_90, List.forall_mem_cons.mpr ⟨k_58_91, List.forall_mem_cons.mpr ⟨k_58_92, List.forall_mem_cons.mpr ⟨k_58_95, fun _ h => absurd h List.not_mem_nil⟩⟩⟩⟩⟩⟩⟩⟩
def B58_7 : List (Nat × aO) := [(96, oLA 0 97), (97, oS (gKo (.int 33)) 99), (99, oCV 3 54 1), (102, oCV 0 14 1), (105, oLA 0 106), (106, oCV 3 60 0), (109, oRZ)]
theorem B58_7_ok : ∀ q ∈ B58_7, Ok M58 q.1 q.2 := List.forall_mem_cons.mpr ⟨k_58_96, List.forall_mem_cons.mpr ⟨k_58_97, List.forall_mem_cons.mpr ⟨k_58_99, List.forall_mem_cons.mpr ⟨k_58_102, List.forall_mem_cons.mpr ⟨k_58_105, List.forall_mem_cons.mpr ⟨k_58_106, List.forall_mem_cons.mpr ⟨k_58_109, fun _ h => absurd h List.not_mem_nil⟩⟩⟩⟩⟩⟩⟩
def P58 : List (Nat × List (Nat × aO)) := [(11, B58_0), (26, B58_1), (38, B58_2), (53, B58_3), (65, B58_4), (81, B58_5), (95, B58_6), (109, B58_7)]
theorem P58_ok : ∀ b ∈ P58, ∀ q ∈ b.2, Ok M58 q.1 q.2 := List.forall_mem_cons.mpr ⟨B58_0_ok, List.forall_mem_cons.mpr ⟨B58_1_ok, List.forall_mem_cons.mpr ⟨B58_2_ok, List.forall_mem_cons.mpr ⟨B58_3_ok, List.forall_mem_cons.mpr ⟨B58_4_ok, List.forall_mem_cons.mpr ⟨B58_5_ok, List.forall_mem_cons.mpr ⟨B58_6_ok, List.forall_mem_cons.mpr ⟨B58_7_ok, fun _ h => absurd h List.not_mem_nil⟩⟩⟩⟩⟩⟩⟩⟩
theorem k_59_0 : Ok M59 0 (oLA 0 1) := r_aload_n (j := 0) (by decide +kernel) rfl
theorem k_59_1 : Ok M59 1 (oS (gKo (.int 4)) 2) := r_iconst (n := 4) (by decide +kernel) (by decide +kernel)
theorem k_59_2 : Ok M59 2 (oLI 2 3) := r_iload_n (j := 2) (by decide +kernel) rfl
theorem k_59_3 : Ok M59 3 (oCV 3 53 2) := r_callV (idx := 51) (by decide +kernel) w_346 cv_53
theorem k_59_6 : Ok M59 6 (oLI 2 7) := r_iload_n (j := 2) (by decide +kernel) rfl
theorem k_59_7 : Ok M59 7 (oB1 b_if_le q_le 21 10) := r_if_le (off := 14) (by decide +kernel) (by decide +kernel)
theorem k_59_10 : Ok M59 10 (oLA 0 11) := r_aload_n (j := 0) (by decide +kernel) rfl
theorem k_59_11 : Ok M59 11 (oS (gKo (.int 44)) 13) := r_bipush (n := 44) (by decide +kernel) (by decide +kernel)
theorem k_59_13 : Ok M59 13 (oCV 3 54 1) := r_callV (idx := 93) (by decide +kernel) w_373 cv_54
theorem k_59_16 : Ok M59 16 (oB1 b_if_ne q_ne 21 19) := r_if_ne (off := 5) (by decide +kernel) (by decide +kernel)
theorem k_59_19 : Ok M59 19 (oS (gKo (.int 0)) 20) := r_iconst (n := 0) (by decide +kernel) (by decide +kernel)
theorem k_59_20 : Ok M59 20 (oRZ) := r_zreturn rfl (by decide +kernel)
theorem k_59_21 : Ok M59 21 (oLA 0 22) := r_aload_n (j := 0) (by decide +kernel) rfl
theorem k_59_22 : Ok M59 22 (oS (gKo (.int 2)) 23) := r_iconst (n := 2) (by decide +kernel) (by decide +kernel)
theorem k_59_23 : Ok M59 23 (oS (gKo (.int 99)) 25) := r_bipush (n := 99) (by decide +kernel) (by decide +kernel)
theorem k_59_25 : Ok M59 25 (oCV 3 61 2) := r_callV (idx := 87) (by decide +kernel) w_381 cv_61
theorem k_59_28 : Ok M59 28 (oSI 3 4 29) := r_istore_n (j := 3) (by decide +kernel) rfl
theorem k_59_29 : Ok M59 29 (oLI 3 30) := r_iload_n (j := 3) (by decide +kernel) rfl
theorem k_59_30 : Ok M59 30 (oS (gKo (.int (-1))) 31) := r_iconst (n := (-1)) (by decide +kernel) (by decide +kernel)
theorem k_59_31 : Ok M59 31 (oB2 b_icmp_ne q_ne 36 34) := r_icmp_ne (off := 5) (by decide +kernel) (by decide +kernel)
theorem k_59_34 : Ok M59 34 (oS (gKo (.int 0)) 35) := r_iconst (n := 0) (by decide +kernel) (by decide +kernel)
theorem k_59_35 : Ok M59 35 (oRZ) := r_zreturn rfl (by decide +kernel)
theorem k_59_36 : Ok M59 36 (oLA 1 37) := r_aload_n (j := 1) (by decide +kernel) rfl
theorem k_59_37 : Ok M59 37 (oLA 1 38) := r_aload_n (j := 1) (by decide +kernel) rfl
theorem k_59_38 : Ok M59 38 (oGe 0 2 41) := r_get (idx := 55) (by decide +kernel) cd_0 2 (by decide) w_137 rfl
theorem k_59_41 : Ok M59 41 (oLI 2 42) := r_iload_n (j := 2) (by decide +kernel) rfl
theorem k_59_42 : Ok M59 42 (oLI 3 43) := r_iload_n (j := 3) (by decide +kernel) rfl
theorem k_59_43 : Ok M59 43 (oCV 0 4 3) := r_callV (idx := 108) (by decide +kernel) w_393 cv_4
theorem k_59_46 : Ok M59 46 (oS (gKo (.int 1)) 47) := r_iconst (n := 1) (by decide +kernel) (by decide +kernel)
theorem k_59_47 : Ok M59 47 (oRZ) := r_zreturn rfl (by decide +kernel)
def B59_0 : List (Nat × aO) := [(0, oLA 0 1), (1, oS (gKo (.int 4)) 2), (2, oLI 2 3), (3, oCV 3 53 2), (6, oLI 2 7), (7, oB1 b_if_le q_le 21 10), (10, oLA 0 11), (11, oS (gKo (.int 44)) 13)]
theorem B59_0_ok : ∀ q ∈ B59_0, Ok M59 q.1 q.2 := List.forall_mem_cons.mpr ⟨k_59_0, List.forall_mem_cons.mpr ⟨k_59_1, List.forall_mem_cons.mpr ⟨k_59_2, List.forall_mem_cons.mpr ⟨k_59_3, List.forall_mem_cons.mpr ⟨k_59_6, List.forall_mem_cons.mpr ⟨k_59_7, List.forall_mem_cons.mpr ⟨k_59_10, List.forall_mem_cons.mpr ⟨k_59_11, fun _ h => absurd h List.not_mem_nil⟩⟩⟩⟩⟩⟩⟩⟩
def B59_1 : List (Nat × aO) := [(13, oCV 3 54 1), (16, oB1 b_if_ne q_ne 21 19), (19, oS (gKo (.int 0)) 20), (20, oRZ), (21, oLA 0 22), (22, oS (gKo (.int 2)) 23), (23, oS (gKo (.int 99)) 25), (25, oCV 3 61 2)]
theorem B59_1_ok : ∀ q ∈ B59_1, Ok M59 q.1 q.2 := List.forall_mem_cons.mpr ⟨k_59_13, List.forall_mem_cons.mpr ⟨k_59_16, List.forall_mem_cons.mpr ⟨k_59_19, List.forall_mem_cons.mpr ⟨k_59_20, List.forall_mem_cons.mpr ⟨k_59_21, List.forall_mem_cons.mpr ⟨k_59_22, List.forall_mem_cons.mpr ⟨k_59_23, List.forall_mem_cons.mpr ⟨k_59_25, fun _ h => absurd h List.not_mem_nil⟩⟩⟩⟩⟩⟩⟩⟩
def B59_2 : List (Nat × aO) := [(28, oSI 3 4 29), (29, oLI 3 30), (30, oS (gKo (.int (-1))) 31), (31, oB2 b_icmp_ne q_ne 36 34), (34, oS (gKo (.int 0)) 35), (35, oRZ), (36, oLA 1 37), (37, oLA 1 38)]
theorem B59_2_ok : ∀ q ∈ B59_2, Ok M59 q.1 q.2 := List.forall_mem_cons.mpr ⟨k_59_28, List.forall_mem_cons.mpr ⟨k_59_29, List.forall_mem_cons.mpr ⟨k_59_30, List.forall_mem_cons.mpr ⟨k_59_31, List.forall_mem_cons.mpr ⟨k_59_34, List.forall_mem_cons.mpr ⟨k_59_35, List.forall_mem_cons.mpr ⟨k_59_36, List.forall_mem_cons.mpr ⟨k_59_37, fun _ h => absurd h List.not_mem_nil⟩⟩⟩⟩⟩⟩⟩⟩
def B59_3 : List (Nat × aO) := [(38, oGe 0 2 41), (41, oLI 2 42), (42, oLI 3 43), (43, oCV 0 4 3), (46, oS (gKo (.int 1)) 47), (47, oRZ)]
theorem B59_3_ok : ∀ q ∈ B59_3, Ok M59 q.1 q.2 := List.forall_mem_cons.mpr ⟨k_59_38, List.forall_mem_cons.mpr ⟨k_59_41, List.forall_mem_cons.mpr ⟨k_59_42, List.forall_mem_cons.mpr ⟨k_59_43, List.forall_mem_cons.mpr ⟨k_59_46, List.forall_mem_cons.mpr ⟨k_59_47, fun _ h => absurd h List.not_mem_nil⟩⟩⟩⟩⟩⟩
def P59 : List (Nat × List (Nat × aO)) := [(11, B59_0), (25, B59_1), (37, B59_2), (47, B59_3)]
theorem P59_ok : ∀ b ∈ P59, ∀ q ∈ b.2, Ok M59 q.1 q.2 := List.forall_mem_cons.mpr ⟨B59_0_ok, List.forall_mem_cons.mpr ⟨B59_1_ok, List.forall_mem_cons.mpr ⟨B59_2_ok, List.forall_mem_cons.mpr ⟨B59_3_ok, fun _ h => absurd h List.not_mem_nil⟩⟩⟩⟩
theorem k_60_0 : Ok M60 0 (oLA 0 1) := r_aload_n (j := 0) (by decide +kernel) rfl
theorem k_60_1 : Ok M60 1 (oS (gKo (.int 5)) 2) := r_iconst (n := 5) (by decide +kernel) (by decide +kernel)
theorem k_60_2 : Ok M60 2 (oS (gKo (.int 0)) 3) := r_iconst (n := 0) (by decide +kernel) (by decide +kernel)
theorem k_60_3 : Ok M60 3 (oCV 3 53 2) := r_callV (idx := 51) (by decide +kernel) w_346 cv_53
theorem k_60_6 : Ok M60 6 (oLA 0 7) := r_aload_n (j := 0) (by decide +kernel) rfl
theorem k_60_7 : Ok M60 7 (oS (gKo (.int 59)) 9) := r_bipush (n := 59) (by decide +kernel) (by decide +kernel)
theorem k_60_9 : Ok M60 9 (oCV 3 54 1) := r_callV (idx := 93) (by decide +kernel) w_373 cv_54
theorem k_60_12 : Ok M60 12 (oRZ) := r_zreturn rfl (by decide +kernel)
def B60_0 : List (Nat × aO) := [(0, oLA 0 1), (1, oS (gKo (.int 5)) 2), (2, oS (gKo (.int 0)) 3), (3, oCV 3 53 2), (6, oLA 0 7), (7, oS (gKo (.int 59)) 9), (9, oCV 3 54 1), (12, oRZ)]
theorem B60_0_ok : ∀ q ∈ B60_0, Ok M60 q.1 q.2 := List.forall_mem_cons.mpr ⟨k_60_0, List.forall_mem_cons.mpr ⟨k_60_1, List.forall_mem_cons.mpr ⟨k_60_2, List.forall_mem_cons.mpr ⟨k_60_3, List.forall_mem_cons.mpr ⟨k_60_6, List.forall_mem_cons.mpr ⟨k_60_7, List.forall_mem_cons.mpr ⟨k_60_9, List.forall_mem_cons.mpr ⟨k_60_12, fun _ h => absurd h List.not_mem_nil⟩⟩⟩⟩⟩⟩⟩⟩
def P60 : List (Nat × List (Nat × aO)) := [(12, B60_0)]
theorem P60_ok : ∀ b ∈ P60, ∀ q ∈ b.2, Ok M60 q.1 q.2 := List.forall_mem_cons.mpr ⟨B60_0_ok, fun _ h => absurd h List.not_mem_nil⟩
theorem k_61_0 : Ok M61 0 (oS (gKo (.int (-1))) 1) := r_iconst (n := (-1)) (by decide +kernel) (by decide +kernel)
theorem k_61_1 : Ok M61 1 (oSI 3 7 2) := r_istore_n (j := 3) (by decide +kernel) rfl
theorem k_61_2 : Ok M61 2 (oS (gKo (.int 0)) 3) := r_iconst (n := 0) (by decide +kernel) (by decide +kernel)
theorem k_61_3 : Ok M61 3 (oSI 4 7 5) := r_istore (by decide +kernel)
theorem k_61_5 : Ok M61 5 (oLI 4 7) := r_iload (by decide +kernel)
theorem k_61_7 : Ok M61 7 (oLI 1 8) := r_iload_n (j := 1) (by decide +kernel) rfl
theorem k_61_8 : Ok M61 8 (oB2 b_icmp_ge q_ge 79 11) := r_icmp_ge (off := 71) (by decide +kernel) (by decide +kernel)
theorem k_61_11 : Ok M61 11 (oLA 0 12) := r_aload_n (j := 0) (by decide +kernel) rfl
theorem k_61_12 : Ok M61 12 (oCV 3 52 0) := r_callV (idx := 47) (by decide +kernel) w_350 cv_52
theorem k_61_15 : Ok M61 15 (oSI 5 7 17) := r_istore (by decide +kernel)
theorem k_61_17 : Ok M61 17 (oLI 4 19) := r_iload (by decide +kernel)
theorem k_61_19 : Ok M61 19 (oB1 b_if_ne q_ne 26 22) := r_if_ne (off := 7) (by decide +kernel) (by decide +kernel)
theorem k_61_22 : Ok M61 22 (oS (gKo (.int 0)) 23) := r_iconst (n := 0) (by decide +kernel) (by decide +kernel)
theorem k_61_23 : Ok M61 23 (oGo 30) := r_goto (off := 7) (by decide +kernel) (by decide +kernel)
theorem k_61_26 : Ok M61 26 (oS (gKo (.int 10)) 28) := r_bipush (n := 10) (by decide +kernel) (by decide +kernel)
theorem k_61_28 : Ok M61 28 (oLI 3 29) := r_iload_n (j := 3) (by decide +kernel) rfl
theorem k_61_29 : Ok M61 29 (oS (gI2 f_imul) 30) := r_imul (by decide +kernel)
theorem k_61_30 : Ok M61 30 (oLI 5 32) := r_iload (by decide +kernel)
theorem k_61_32 : Ok M61 32 (oS (gKo (.int 48)) 34) := r_bipush (n := 48) (by decide +kernel) (by decide +kernel)
theorem k_61_34 : Ok M61 34 (oS (gI2 f_isub) 35) := r_isub (by decide +kernel)
theorem k_61_35 : Ok M61 35 (oS (gI2 f_iadd) 36) := r_iadd (by decide +kernel)
theorem k_61_36 : Ok M61 36 (oSI 6 7 38) := r_istore (by decide +kernel)
theorem k_61_38 : Ok M61 38 (oLI 5 40) := r_iload (by decide +kernel)
theorem k_61_40 : Ok M61 40 (oS (gKo (.int 48)) 42) := r_bipush (n := 48) (by decide +kernel) (by decide +kernel)
theorem k_61_42 : Ok M61 42 (oB2 b_icmp_lt q_lt 58 45) := r_icmp_lt (off := 16) (by decide +kernel) (by decide +kernel)
theorem k_61_45 : Ok M61 45 (oLI 5 47) := r_iload (by decide +kernel)
theorem k_61_47 : Ok M61 47 (oS (gKo (.int 57)) 49) := r_bipush (n := 57) (by decide +kernel) (by decide +kernel)
theorem k_61_49 : Ok M61 49 (oB2 b_icmp_gt q_gt 58 52) := r_icmp_gt (off := 9) (by decide +kernel) (by decide +kernel)
theorem k_61_52 : Ok M61 52 (oLI 6 54) := r_iload (by decide +kernel)
theorem k_61_54 : Ok M61 54 (oLI 2 55) := r_iload_n (j := 2) (by decide +kernel) rfl
theorem k_61_55 : Ok M61 55 (oB2 b_icmp_le q_le 60 58) := r_icmp_le (off := 5) (by decide +kernel) (by decide +kernel)
theorem k_61_58 : Ok M61 58 (oLI 3 59) := r_iload_n (j := 3) (by decide +kernel) rfl
theorem k_61_59 : Ok M61 59 (oRI) := r_ireturn rfl (by decide +kernel)
theorem k_61_60 : Ok M61 60 (oLI 6 62) := r_iload (by decide +kernel)
theorem k_61_62 : Ok M61 62 (oSI 3 7 63) := r_istore_n (j := 3) (by decide +kernel) rfl
theorem k_61_63 : Ok M61 63 (oLA 0 64) := r_aload_n (j := 0) (by decide +kernel) rfl
theorem k_61_64 : Ok M61 64 (oS gDu 65) := r_dup (by decide +kernel)
theorem k_61_65 : Ok M61 65 (oGe 3 3 68) := r_get (idx := 22) (by decide +kernel) cd_3 3 (by decide) w_102 rfl
theorem k_61_68 : Ok M61 68 (oS (gKo (.int 1)) 69) := r_iconst (n := 1) (by decide +kernel) (by decide +kernel)
theorem k_61_69 : Ok M61 69 (oS (gI2 f_iadd) 70) := r_iadd (by decide +kernel)
theorem k_61_70 : Ok M61 70 (oPI 3 3 73) := r_putI (idx := 22) (by decide +kernel) cd_3 3 (by decide) w_102 rfl rfl (by decide +kernel)
theorem k_61_73 : Ok M61 73 (oInc 4 1 7 76) := r_iinc (n := 1) (by decide +kernel) (by decide +kernel)
theorem k_61_76 : Ok M61 76 (oGo 5) := r_goto (off := (-71)) (by decide +kernel) (by decide +kernel)
theorem k_61_79 : Ok M61 79 (oLI 3 80) := r_iload_n (j := 3) (by decide +kernel) rfl
theorem k_61_80 : Ok M61 80 (oRI) := r_ireturn rfl (by decide +kernel)
def B61_0 : List (Nat × aO) := [(0, oS (gKo (.int (-1))) 1), (1, oSI 3 7 2), (2, oS (gKo (.int 0)) 3), (3, oSI 4 7 5), (5, oLI 4 7), (7, oLI 1 8), (8, oB2 b_icmp_ge q_ge 79 11), (11, oLA 0 12)]
theorem B61_0_ok : ∀ q ∈ B61_0, Ok M61 q.1 q.2 := List.forall_mem_cons.mpr ⟨k_61_0, List.forall_mem_cons.mpr ⟨k_61_1, List.forall_mem_cons.mpr ⟨k_61_2, List.forall_mem_cons.mpr ⟨k_61_3, List.forall_mem_cons.mpr ⟨k_61_5, List.forall_mem_cons.mpr ⟨k_61_7, List.forall_mem_cons.mpr ⟨k_61_8, List.forall_mem_cons.mpr ⟨k_61_11, fun _ h => absurd h List.not_mem_nil⟩⟩⟩⟩⟩⟩⟩⟩
def B61_1 : List (Nat × aO) := [(12, oCV 3 52 0), (15, oSI 5 7 17), (17, oLI 4 19), (19, oB1 b_if_ne q_ne 26 22), (22, oS (gKo (.int 0)) 23), (23, oGo 30), (26, oS (gKo (.int 10)) 28), (28, oLI 3 29)]
theorem B61_1_ok : ∀ q ∈ B61_1, Ok M61 q.1 q.2 := List.forall_mem_cons.mpr ⟨k_61_12, List.forall_mem_cons.mpr ⟨k_61_15, List.forall_mem_cons.mpr ⟨k_61_17, List.forall_mem_cons.mpr ⟨k_61_19, List.forall_mem_cons.mpr ⟨k_61_22, List.forall_mem_cons.mpr ⟨k_61_23, List.forall_mem_cons.mpr ⟨k_61_26, List.forall_mem_cons.mpr ⟨k_61_28, fun _ h => absurd h List.not_mem_nil⟩⟩⟩⟩⟩⟩⟩⟩
def B61_2 : List (Nat × aO) := [(29, oS (gI2 f_imul) 30), (30, oLI 5 32), (32, oS (gKo (.int 48)) 34), (34, oS (gI2 f_isub) 35), (35, oS (gI2 f_iadd) 36), (36, oSI 6 7 38), (38, oLI 5 40), (40, oS (gKo (.int 48)) 42)]
theorem B61_2_ok : ∀ q ∈ B61_2, Ok M61 q.1 q.2 := List.forall_mem_cons.mpr ⟨k_61_29, List.forall_mem_cons.mpr ⟨k_61_30, List.forall_mem_cons.mpr ⟨k_61_32, List.forall_mem_cons.mpr ⟨k_61_34, List.forall_mem_cons.mpr ⟨k_61_35, List.forall_mem_cons.mpr ⟨k_61_36, List.forall_mem_cons.mpr ⟨k_61_38, List.forall_mem_cons.mpr ⟨k_61_40, fun _ h => absurd h List.not_mem_nil⟩⟩⟩⟩⟩⟩⟩⟩
def B61_3 : List (Nat × aO) := [(42, oB2 b_icmp_lt q_lt 58 45), (45, oLI 5 47), (47, oS (gKo (.int 57)) 49), (49, oB2 b_icmp_gt q_gt 58 52), (52, oLI 6 54), (54, oLI 2 55), (55, oB2 b_icmp_le q_le 60 58), (58, oLI 3 59)]
theorem B61_3_ok : ∀ q ∈ B61_3, Ok M61 q.1 q.2 := List.forall_mem_cons.mpr ⟨k_61_42, List.forall_mem_cons.mpr ⟨k_61_45, List.forall_mem_cons.mpr ⟨k_61_47, List.forall_mem_cons.mpr ⟨k_61_49, List.forall_mem_cons.mpr ⟨k_61_52, List.forall_mem_cons.mpr ⟨k_61_54, List.forall_mem_cons.mpr ⟨k_61_55, List.forall_mem_cons.mpr ⟨k_61_58, fun _ h => absurd h List.not_mem_nil⟩⟩⟩⟩⟩⟩⟩⟩
def B61_4 : List (Nat × aO) := [(59, oRI), (60, oLI 6 62), (62, oSI 3 7 63), (63, oLA 0 64), (64, oS gDu 65), (65, oGe 3 3 68), (68, oS (gKo (.int 1)) 69), (69, oS (gI2 f_iadd) 70)]
theorem B61_4_ok : ∀ q ∈ B61_4, Ok M61 q.1 q.2 := List.forall_mem_cons.mpr ⟨k_61_59, List.forall_mem_cons.mpr ⟨k_61_60, List.forall_mem_cons.mpr ⟨k_61_62, List.forall_mem_cons.mpr ⟨k_61_63, List.forall_mem_cons.mpr ⟨k_61_64, List.forall_mem_cons.mpr ⟨k_61_65, List.forall_mem_cons.mpr ⟨k_61_68, List.forall_mem_cons.mpr ⟨k_61_69, fun _ h => absurd h List.not_mem_nil⟩⟩⟩⟩⟩⟩⟩⟩
def B61_5 : List (Nat × aO) := [(70, oPI 3 3 73), (73, oInc 4 1 7 76), (76, oGo 5), (79, oLI 3 80), (80, oRI)]
theorem B61_5_ok : ∀ q ∈ B61_5, Ok M61 q.1 q.2 := List.forall_mem_cons.mpr ⟨k_61_70, List.forall_mem_cons.mpr ⟨k_61_73, List.forall_mem_cons.mpr ⟨k_61_76, List.forall_mem_cons.mpr ⟨k_61_79, List.forall_mem_cons.mpr ⟨k_61_80, fun _ h => absurd h List.not_mem_nil⟩⟩⟩⟩⟩
def P61 : List (Nat × List (Nat × aO)) := [(11, B61_0), (28, B61_1), (40, B61_2), (58, B61_3), (69, B61_4), (80, B61_5)]
theorem P61_ok : ∀ b ∈ P61, ∀ q ∈ b.2, Ok M61 q.1 q.2 := List.forall_mem_cons.mpr ⟨B61_0_ok, List.forall_mem_cons.mpr ⟨B61_1_ok, List.forall_mem_cons.mpr ⟨B61_2_ok, List.forall_mem_cons.mpr ⟨B61_3_ok, List.forall_mem_cons.mpr ⟨B61_4_ok, List.forall_mem_cons.mpr ⟨B61_5_ok, fun _ h => absurd h List.not_mem_nil⟩⟩⟩⟩⟩⟩
theorem k_62_0 : Ok M62 0 (oLA 0 1) := r_aload_n (j := 0) (by decide +kernel) rfl
theorem k_62_1 : Ok M62 1 (oOb 4) := r_objInit (idx := 1) (by decide +kernel) w_85 w_86 w_oc
theorem k_62_4 : Ok M62 4 (oLA 0 5) := r_aload_n (j := 0) (by decide +kernel) rfl
theorem k_62_5 : Ok M62 5 (oNO 3 7 [.null, .int 0, .null, .int 0, .int 0, .int 0, .int 0] 8) := r_new (idx := 7) (fs := [.null, .int 0, .null, .int 0, .int 0, .int 0, .int 0]) (by decide +kernel) cd_3 w_88 (fun S j hj => by
  have : j < 7 := hj
  match j, this with
  | 0, _ => rfl
  | 1, _ => rfl
  | 2, _ => rfl
  | 3, _ => rfl
  | 4, _ => rfl
  | 5, _ => rfl
  | 6, _ => rfl
  | (j + 7), h => exact absurd h (by omega))
theorem k_62_8 : Ok M62 8 (oS gDu 9) := r_dup (by decide +kernel)
theorem k_62_9 : Ok M62 9 (oCI 47 0) := r_callI (idx := 9) (by decide +kernel) w_90 cn_47
theorem k_62_12 : Ok M62 12 (oPR 4 0 15) := r_putR (idx := 10) (by decide +kernel) cd_4 0 (by decide) w_278 rfl rfl rfl rfl (.object "PostShares$Text") (by decide +kernel) (fun _ => ⟨rfl, rfl⟩)
theorem k_62_15 : Ok M62 15 (oLA 0 16) := r_aload_n (j := 0) (by decide +kernel) rfl
theorem k_62_16 : Ok M62 16 (oNO 0 19 [.int 0, .null, .int 0, .null, .null, .int 0, .int 0, .int 0, .null, .null, .null, .null, .int 0, .null, .null, .int 0, .int 0, .int 0, .int 0] 19) := r_new (idx := 16) (fs := [.int 0, .null, .int 0, .null, .null, .int 0, .int 0, .int 0, .null, .null, .null, .null, .int 0, .null, .null, .int 0, .int 0, .int 0, .int 0]) (by decide +kernel) cd_0 w_124 (fun S j hj => by
  have : j < 19 := hj
  match j, this with
  | 0, _ => rfl
  | 1, _ => rfl
  | 2, _ => rfl
  | 3, _ => rfl
  | 4, _ => rfl
  | 5, _ => rfl
  | 6, _ => rfl
  | 7, _ => rfl
  | 8, _ => rfl
  | 9, _ => rfl
  | 10, _ => rfl
  | 11, _ => rfl
  | 12, _ => rfl
  | 13, _ => rfl
  | 14, _ => rfl
  | 15, _ => rfl
  | 16, _ => rfl
  | 17, _ => rfl
  | 18, _ => rfl
  | (j + 19), h => exact absurd h (by omega))
theorem k_62_19 : Ok M62 19 (oS gDu 20) := r_dup (by decide +kernel)
theorem k_62_20 : Ok M62 20 (oCI 0 0) := r_callIN (idx := 18) (host := RX4) (by decide +kernel) (fun _ _ h => h.2.2.1) cn_0
theorem k_62_23 : Ok M62 23 (oPR 4 1 26) := r_putR (idx := 19) (by decide +kernel) cd_4 1 (by decide) w_279 rfl rfl rfl rfl (.object "PostShares$Board") (by decide +kernel) (fun _ => ⟨rfl, rfl⟩)
theorem k_62_26 : Ok M62 26 (oLA 0 27) := r_aload_n (j := 0) (by decide +kernel) rfl
theorem k_62_27 : Ok M62 27 (oNO 0 19 [.int 0, .null, .int 0, .null, .null, .int 0, .int 0, .int 0, .null, .null, .null, .null, .int 0, .null, .null, .int 0, .int 0, .int 0, .int 0] 30) := r_new (idx := 16) (fs := [.int 0, .null, .int 0, .null, .null, .int 0, .int 0, .int 0, .null, .null, .null, .null, .int 0, .null, .null, .int 0, .int 0, .int 0, .int 0]) (by decide +kernel) cd_0 w_124 (fun S j hj => by
  have : j < 19 := hj
  match j, this with
  | 0, _ => rfl
  | 1, _ => rfl
  | 2, _ => rfl
  | 3, _ => rfl
  | 4, _ => rfl
  | 5, _ => rfl
  | 6, _ => rfl
  | 7, _ => rfl
  | 8, _ => rfl
  | 9, _ => rfl
  | 10, _ => rfl
  | 11, _ => rfl
  | 12, _ => rfl
  | 13, _ => rfl
  | 14, _ => rfl
  | 15, _ => rfl
  | 16, _ => rfl
  | 17, _ => rfl
  | 18, _ => rfl
  | (j + 19), h => exact absurd h (by omega))
theorem k_62_30 : Ok M62 30 (oS gDu 31) := r_dup (by decide +kernel)
theorem k_62_31 : Ok M62 31 (oCI 0 0) := r_callIN (idx := 18) (host := RX4) (by decide +kernel) (fun _ _ h => h.2.2.1) cn_0
theorem k_62_34 : Ok M62 34 (oPR 4 2 37) := r_putR (idx := 23) (by decide +kernel) cd_4 2 (by decide) w_280 rfl rfl rfl rfl (.object "PostShares$Board") (by decide +kernel) (fun _ => ⟨rfl, rfl⟩)
theorem k_62_37 : Ok M62 37 (oLA 0 38) := r_aload_n (j := 0) (by decide +kernel) rfl
theorem k_62_38 : Ok M62 38 (oNO 2 3 [.null, .int 0, .int 0] 41) := r_new (idx := 26) (fs := [.null, .int 0, .int 0]) (by decide +kernel) cd_2 w_210 (fun S j hj => by
  have : j < 3 := hj
  match j, this with
  | 0, _ => rfl
  | 1, _ => rfl
  | 2, _ => rfl
  | (j + 3), h => exact absurd h (by omega))
theorem k_62_41 : Ok M62 41 (oS gDu 42) := r_dup (by decide +kernel)
theorem k_62_42 : Ok M62 42 (oCI 44 0) := r_callI (idx := 28) (by decide +kernel) w_212 cn_44
theorem k_62_45 : Ok M62 45 (oPR 4 3 48) := r_putR (idx := 29) (by decide +kernel) cd_4 3 (by decide) w_281 rfl rfl rfl rfl (.object "PostShares$Past") (by decide +kernel) (fun _ => ⟨rfl, rfl⟩)
theorem k_62_48 : Ok M62 48 (oLA 0 49) := r_aload_n (j := 0) (by decide +kernel) rfl
theorem k_62_49 : Ok M62 49 (oNO 1 2 [.null, .null] 52) := r_new (idx := 33) (fs := [.null, .null]) (by decide +kernel) cd_1 w_230 (fun S j hj => by
  have : j < 2 := hj
  match j, this with
  | 0, _ => rfl
  | 1, _ => rfl
  | (j + 2), h => exact absurd h (by omega))
theorem k_62_52 : Ok M62 52 (oS gDu 53) := r_dup (by decide +kernel)
theorem k_62_53 : Ok M62 53 (oCI 32 0) := r_callI (idx := 35) (by decide +kernel) w_232 cn_32
theorem k_62_56 : Ok M62 56 (oPR 4 4 59) := r_putR (idx := 36) (by decide +kernel) cd_4 4 (by decide) w_282 rfl rfl rfl rfl (.object "PostShares$Foresight") (by decide +kernel) (fun _ => ⟨rfl, rfl⟩)
theorem k_62_59 : Ok M62 59 (oLA 0 60) := r_aload_n (j := 0) (by decide +kernel) rfl
theorem k_62_60 : Ok M62 60 (oS (gKo (.int 0)) 61) := r_iconst (n := 0) (by decide +kernel) (by decide +kernel)
theorem k_62_61 : Ok M62 61 (oPI 4 5 64) := r_putI (idx := 40) (by decide +kernel) cd_4 5 (by decide) w_283 rfl rfl (by decide +kernel)
theorem k_62_64 : Ok M62 64 (oLA 0 65) := r_aload_n (j := 0) (by decide +kernel) rfl
theorem k_62_65 : Ok M62 65 (oCV 4 90 0) := r_callV (idx := 44) (by decide +kernel) w_244 cv_90
theorem k_62_68 : Ok M62 68 (oRV) := r_return rfl (by decide +kernel)
def B62_0 : List (Nat × aO) := [(0, oLA 0 1), (1, oOb 4), (4, oLA 0 5), (5, oNO 3 7 [.null, .int 0, .null, .int 0, .int 0, .int 0, .int 0] 8), (8, oS gDu 9), (9, oCI 47 0), (12, oPR 4 0 15), (15, oLA 0 16)]
theorem B62_0_ok : ∀ q ∈ B62_0, Ok M62 q.1 q.2 := List.forall_mem_cons.mpr ⟨k_62_0, List.forall_mem_cons.mpr ⟨k_62_1, List.forall_mem_cons.mpr ⟨k_62_4, List.forall_mem_cons.mpr ⟨k_62_5, List.forall_mem_cons.mpr ⟨k_62_8, List.forall_mem_cons.mpr ⟨k_62_9, List.forall_mem_cons.mpr ⟨k_62_12, List.forall_mem_cons.mpr ⟨k_62_15, fun _ h => absurd h List.not_mem_nil⟩⟩⟩⟩⟩⟩⟩⟩
def B62_1 : List (Nat × aO) := [(16, oNO 0 19 [.int 0, .null, .int 0, .null, .null, .int 0, .int 0, .int 0, .null, .null, .null, .null, .int 0, .null, .null, .int 0, .int 0, .int 0, .int 0] 19), (19, oS gDu 20), (20, oCI 0 0), (23, oPR 4 1 26), (26, oLA 0 27), (27, oNO 0 19 [.int 0, .null, .int 0, .null, .null, .int 0, .int 0, .int 0, .null, .null, .null, .null, .int 0, .null, .null, .int 0, .int 0, .int 0, .int 0] 30), (30, oS gDu 31), (31, oCI 0 0)]
theorem B62_1_ok : ∀ q ∈ B62_1, Ok M62 q.1 q.2 := List.forall_mem_cons.mpr ⟨k_62_16, List.forall_mem_cons.mpr ⟨k_62_19, List.forall_mem_cons.mpr ⟨k_62_20, List.forall_mem_cons.mpr ⟨k_62_23, List.forall_mem_cons.mpr ⟨k_62_26, List.forall_mem_cons.mpr ⟨k_62_27, List.forall_mem_cons.mpr ⟨k_62_30, List.forall_mem_cons.mpr ⟨k_62_31, fun _ h => absurd h List.not_mem_nil⟩⟩⟩⟩⟩⟩⟩⟩
def B62_2 : List (Nat × aO) := [(34, oPR 4 2 37), (37, oLA 0 38), (38, oNO 2 3 [.null, .int 0, .int 0] 41), (41, oS gDu 42), (42, oCI 44 0), (45, oPR 4 3 48), (48, oLA 0 49), (49, oNO 1 2 [.null, .null] 52)]
theorem B62_2_ok : ∀ q ∈ B62_2, Ok M62 q.1 q.2 := List.forall_mem_cons.mpr ⟨k_62_34, List.forall_mem_cons.mpr ⟨k_62_37, List.forall_mem_cons.mpr ⟨k_62_38, List.forall_mem_cons.mpr ⟨k_62_41, List.forall_mem_cons.mpr ⟨k_62_42, List.forall_mem_cons.mpr ⟨k_62_45, List.forall_mem_cons.mpr ⟨k_62_48, List.forall_mem_cons.mpr ⟨k_62_49, fun _ h => absurd h List.not_mem_nil⟩⟩⟩⟩⟩⟩⟩⟩
def B62_3 : List (Nat × aO) := [(52, oS gDu 53), (53, oCI 32 0), (56, oPR 4 4 59), (59, oLA 0 60), (60, oS (gKo (.int 0)) 61), (61, oPI 4 5 64), (64, oLA 0 65), (65, oCV 4 90 0)]
theorem B62_3_ok : ∀ q ∈ B62_3, Ok M62 q.1 q.2 := List.forall_mem_cons.mpr ⟨k_62_52, List.forall_mem_cons.mpr ⟨k_62_53, List.forall_mem_cons.mpr ⟨k_62_56, List.forall_mem_cons.mpr ⟨k_62_59, List.forall_mem_cons.mpr ⟨k_62_60, List.forall_mem_cons.mpr ⟨k_62_61, List.forall_mem_cons.mpr ⟨k_62_64, List.forall_mem_cons.mpr ⟨k_62_65, fun _ h => absurd h List.not_mem_nil⟩⟩⟩⟩⟩⟩⟩⟩
def B62_4 : List (Nat × aO) := [(68, oRV)]
theorem B62_4_ok : ∀ q ∈ B62_4, Ok M62 q.1 q.2 := List.forall_mem_cons.mpr ⟨k_62_68, fun _ h => absurd h List.not_mem_nil⟩
def P62 : List (Nat × List (Nat × aO)) := [(15, B62_0), (31, B62_1), (49, B62_2), (65, B62_3), (68, B62_4)]
theorem P62_ok : ∀ b ∈ P62, ∀ q ∈ b.2, Ok M62 q.1 q.2 := List.forall_mem_cons.mpr ⟨B62_0_ok, List.forall_mem_cons.mpr ⟨B62_1_ok, List.forall_mem_cons.mpr ⟨B62_2_ok, List.forall_mem_cons.mpr ⟨B62_3_ok, List.forall_mem_cons.mpr ⟨B62_4_ok, fun _ h => absurd h List.not_mem_nil⟩⟩⟩⟩⟩
theorem k_63_0 : Ok M63 0 (oLI 1 1) := r_iload_n (j := 1) (by decide +kernel) rfl
theorem k_63_1 : Ok M63 1 (oB1 b_if_lt q_lt 10 4) := r_if_lt (off := 9) (by decide +kernel) (by decide +kernel)
theorem k_63_4 : Ok M63 4 (oLI 1 5) := r_iload_n (j := 1) (by decide +kernel) rfl
theorem k_63_5 : Ok M63 5 (oS (gKo (.int 127)) 7) := r_bipush (n := 127) (by decide +kernel) (by decide +kernel)
theorem k_63_7 : Ok M63 7 (oB2 b_icmp_le q_le 15 10) := r_icmp_le (off := 8) (by decide +kernel) (by decide +kernel)
theorem k_63_10 : Ok M63 10 (oLA 0 11) := r_aload_n (j := 0) (by decide +kernel) rfl
theorem k_63_11 : Ok M63 11 (oCV 4 91 0) := r_callV (idx := 47) (by decide +kernel) w_310 cv_91
theorem k_63_14 : Ok M63 14 (oRI) := r_ireturn rfl (by decide +kernel)
theorem k_63_15 : Ok M63 15 (oLA 0 16) := r_aload_n (j := 0) (by decide +kernel) rfl
theorem k_63_16 : Ok M63 16 (oGe 4 0 19) := r_get (idx := 10) (by decide +kernel) cd_4 0 (by decide) w_278 rfl
theorem k_63_19 : Ok M63 19 (oGe 3 1 22) := r_get (idx := 51) (by decide +kernel) cd_3 1 (by decide) w_99 rfl
theorem k_63_22 : Ok M63 22 (oS (gKo (.int 160)) 25) := r_sipush (n := 160) (by decide +kernel) (by decide +kernel)
theorem k_63_25 : Ok M63 25 (oB2 b_icmp_lt q_lt 33 28) := r_icmp_lt (off := 8) (by decide +kernel) (by decide +kernel)
theorem k_63_28 : Ok M63 28 (oLA 0 29) := r_aload_n (j := 0) (by decide +kernel) rfl
theorem k_63_29 : Ok M63 29 (oCV 4 93 0) := r_callV (idx := 54) (by decide +kernel) w_314 cv_93
theorem k_63_32 : Ok M63 32 (oRI) := r_ireturn rfl (by decide +kernel)
theorem k_63_33 : Ok M63 33 (oLA 0 34) := r_aload_n (j := 0) (by decide +kernel) rfl
theorem k_63_34 : Ok M63 34 (oGe 4 0 37) := r_get (idx := 10) (by decide +kernel) cd_4 0 (by decide) w_278 rfl
theorem k_63_37 : Ok M63 37 (oLI 1 38) := r_iload_n (j := 1) (by decide +kernel) rfl
theorem k_63_38 : Ok M63 38 (oCV 3 48 1) := r_callV (idx := 57) (by decide +kernel) w_318 cv_48
theorem k_63_41 : Ok M63 41 (oRI) := r_ireturn rfl (by decide +kernel)
def B63_0 : List (Nat × aO) := [(0, oLI 1 1), (1, oB1 b_if_lt q_lt 10 4), (4, oLI 1 5), (5, oS (gKo (.int 127)) 7), (7, oB2 b_icmp_le q_le 15 10), (10, oLA 0 11), (11, oCV 4 91 0), (14, oRI)]
theorem B63_0_ok : ∀ q ∈ B63_0, Ok M63 q.1 q.2 := List.forall_mem_cons.mpr ⟨k_63_0, List.forall_mem_cons.mpr ⟨k_63_1, List.forall_mem_cons.mpr ⟨k_63_4, List.forall_mem_cons.mpr ⟨k_63_5, List.forall_mem_cons.mpr ⟨k_63_7, List.forall_mem_cons.mpr ⟨k_63_10, List.forall_mem_cons.mpr ⟨k_63_11, List.forall_mem_cons.mpr ⟨k_63_14, fun _ h => absurd h List.not_mem_nil⟩⟩⟩⟩⟩⟩⟩⟩
def B63_1 : List (Nat × aO) := [(15, oLA 0 16), (16, oGe 4 0 19), (19, oGe 3 1 22), (22, oS (gKo (.int 160)) 25), (25, oB2 b_icmp_lt q_lt 33 28), (28, oLA 0 29), (29, oCV 4 93 0), (32, oRI)]
theorem B63_1_ok : ∀ q ∈ B63_1, Ok M63 q.1 q.2 := List.forall_mem_cons.mpr ⟨k_63_15, List.forall_mem_cons.mpr ⟨k_63_16, List.forall_mem_cons.mpr ⟨k_63_19, List.forall_mem_cons.mpr ⟨k_63_22, List.forall_mem_cons.mpr ⟨k_63_25, List.forall_mem_cons.mpr ⟨k_63_28, List.forall_mem_cons.mpr ⟨k_63_29, List.forall_mem_cons.mpr ⟨k_63_32, fun _ h => absurd h List.not_mem_nil⟩⟩⟩⟩⟩⟩⟩⟩
def B63_2 : List (Nat × aO) := [(33, oLA 0 34), (34, oGe 4 0 37), (37, oLI 1 38), (38, oCV 3 48 1), (41, oRI)]
theorem B63_2_ok : ∀ q ∈ B63_2, Ok M63 q.1 q.2 := List.forall_mem_cons.mpr ⟨k_63_33, List.forall_mem_cons.mpr ⟨k_63_34, List.forall_mem_cons.mpr ⟨k_63_37, List.forall_mem_cons.mpr ⟨k_63_38, List.forall_mem_cons.mpr ⟨k_63_41, fun _ h => absurd h List.not_mem_nil⟩⟩⟩⟩⟩
def P63 : List (Nat × List (Nat × aO)) := [(14, B63_0), (32, B63_1), (41, B63_2)]
theorem P63_ok : ∀ b ∈ P63, ∀ q ∈ b.2, Ok M63 q.1 q.2 := List.forall_mem_cons.mpr ⟨B63_0_ok, List.forall_mem_cons.mpr ⟨B63_1_ok, List.forall_mem_cons.mpr ⟨B63_2_ok, fun _ h => absurd h List.not_mem_nil⟩⟩⟩
theorem k_64_0 : Ok M64 0 (oLA 0 1) := r_aload_n (j := 0) (by decide +kernel) rfl
theorem k_64_1 : Ok M64 1 (oGe 4 0 4) := r_get (idx := 10) (by decide +kernel) cd_4 0 (by decide) w_278 rfl
theorem k_64_4 : Ok M64 4 (oCV 3 49 0) := r_callV (idx := 61) (by decide +kernel) w_326 cv_49
theorem k_64_7 : Ok M64 7 (oRI) := r_ireturn rfl (by decide +kernel)
def B64_0 : List (Nat × aO) := [(0, oLA 0 1), (1, oGe 4 0 4), (4, oCV 3 49 0), (7, oRI)]
theorem B64_0_ok : ∀ q ∈ B64_0, Ok M64 q.1 q.2 := List.forall_mem_cons.mpr ⟨k_64_0, List.forall_mem_cons.mpr ⟨k_64_1, List.forall_mem_cons.mpr ⟨k_64_4, List.forall_mem_cons.mpr ⟨k_64_7, fun _ h => absurd h List.not_mem_nil⟩⟩⟩⟩
def P64 : List (Nat × List (Nat × aO)) := [(7, B64_0)]
theorem P64_ok : ∀ b ∈ P64, ∀ q ∈ b.2, Ok M64 q.1 q.2 := List.forall_mem_cons.mpr ⟨B64_0_ok, fun _ h => absurd h List.not_mem_nil⟩
theorem k_65_0 : Ok M65 0 (oLA 0 1) := r_aload_n (j := 0) (by decide +kernel) rfl
theorem k_65_1 : Ok M65 1 (oGe 4 2 4) := r_get (idx := 23) (by decide +kernel) cd_4 2 (by decide) w_280 rfl
theorem k_65_4 : Ok M65 4 (oCV 0 12 0) := r_callV (idx := 64) (by decide +kernel) w_334 cv_12
theorem k_65_7 : Ok M65 7 (oLA 0 8) := r_aload_n (j := 0) (by decide +kernel) rfl
theorem k_65_8 : Ok M65 8 (oGe 4 0 11) := r_get (idx := 10) (by decide +kernel) cd_4 0 (by decide) w_278 rfl
theorem k_65_11 : Ok M65 11 (oLA 0 12) := r_aload_n (j := 0) (by decide +kernel) rfl
theorem k_65_12 : Ok M65 12 (oGe 4 2 15) := r_get (idx := 23) (by decide +kernel) cd_4 2 (by decide) w_280 rfl
theorem k_65_15 : Ok M65 15 (oCV 3 50 1) := r_callV (idx := 67) (by decide +kernel) w_338 cv_50
theorem k_65_18 : Ok M65 18 (oB1 b_if_ne q_ne 32 21) := r_if_ne (off := 14) (by decide +kernel) (by decide +kernel)
theorem k_65_21 : Ok M65 21 (oS (gKo (.int (-10))) 23) := r_bipush (n := (-10)) (by decide +kernel) (by decide +kernel)
theorem k_65_23 : Ok M65 23 (oLA 0 24) := r_aload_n (j := 0) (by decide +kernel) rfl
theorem k_65_24 : Ok M65 24 (oGe 4 0 27) := r_get (idx := 10) (by decide +kernel) cd_4 0 (by decide) w_278 rfl
theorem k_65_27 : Ok M65 27 (oGe 3 3 30) := r_get (idx := 71) (by decide +kernel) cd_3 3 (by decide) w_103 rfl
theorem k_65_30 : Ok M65 30 (oS (gI2 f_isub) 31) := r_isub (by decide +kernel)
theorem k_65_31 : Ok M65 31 (oRI) := r_ireturn rfl (by decide +kernel)
theorem k_65_32 : Ok M65 32 (oLA 0 33) := r_aload_n (j := 0) (by decide +kernel) rfl
theorem k_65_33 : Ok M65 33 (oGe 4 3 36) := r_get (idx := 29) (by decide +kernel) cd_4 3 (by decide) w_281 rfl
theorem k_65_36 : Ok M65 36 (oLA 0 37) := r_aload_n (j := 0) (by decide +kernel) rfl
theorem k_65_37 : Ok M65 37 (oGe 4 1 40) := r_get (idx := 19) (by decide +kernel) cd_4 1 (by decide) w_279 rfl
theorem k_65_40 : Ok M65 40 (oCV 2 45 1) := r_callV (idx := 74) (by decide +kernel) w_405 cv_45
theorem k_65_43 : Ok M65 43 (oLA 0 44) := r_aload_n (j := 0) (by decide +kernel) rfl
theorem k_65_44 : Ok M65 44 (oGe 4 1 47) := r_get (idx := 19) (by decide +kernel) cd_4 1 (by decide) w_279 rfl
theorem k_65_47 : Ok M65 47 (oLA 0 48) := r_aload_n (j := 0) (by decide +kernel) rfl
theorem k_65_48 : Ok M65 48 (oGe 4 2 51) := r_get (idx := 23) (by decide +kernel) cd_4 2 (by decide) w_280 rfl
theorem k_65_51 : Ok M65 51 (oCV 0 31 1) := r_callV (idx := 78) (by decide +kernel) w_419 cv_31
theorem k_65_54 : Ok M65 54 (oLA 0 55) := r_aload_n (j := 0) (by decide +kernel) rfl
theorem k_65_55 : Ok M65 55 (oCV 4 90 0) := r_callV (idx := 44) (by decide +kernel) w_244 cv_90
theorem k_65_58 : Ok M65 58 (oLA 0 59) := r_aload_n (j := 0) (by decide +kernel) rfl
theorem k_65_59 : Ok M65 59 (oGe 4 0 62) := r_get (idx := 10) (by decide +kernel) cd_4 0 (by decide) w_278 rfl
theorem k_65_62 : Ok M65 62 (oGe 3 4 65) := r_get (idx := 81) (by decide +kernel) cd_3 4 (by decide) w_105 rfl
theorem k_65_65 : Ok M65 65 (oRI) := r_ireturn rfl (by decide +kernel)
def B65_0 : List (Nat × aO) := [(0, oLA 0 1), (1, oGe 4 2 4), (4, oCV 0 12 0), (7, oLA 0 8), (8, oGe 4 0 11), (11, oLA 0 12), (12, oGe 4 2 15), (15, oCV 3 50 1)]
theorem B65_0_ok : ∀ q ∈ B65_0, Ok M65 q.1 q.2 := List.forall_mem_cons.mpr ⟨k_65_0, List.forall_mem_cons.mpr ⟨k_65_1, List.forall_mem_cons.mpr ⟨k_65_4, List.forall_mem_cons.mpr ⟨k_65_7, List.forall_mem_cons.mpr ⟨k_65_8, List.forall_mem_cons.mpr ⟨k_65_11, List.forall_mem_cons.mpr ⟨k_65_12, List.forall_mem_cons.mpr ⟨k_65_15, fun _ h => absurd h List.not_mem_nil⟩⟩⟩⟩⟩⟩⟩⟩
def B65_1 : List (Nat × aO) := [(18, oB1 b_if_ne q_ne 32 21), (21, oS (gKo (.int (-10))) 23), (23, oLA 0 24), (24, oGe 4 0 27), (27, oGe 3 3 30), (30, oS (gI2 f_isub) 31), (31, oRI), (32, oLA 0 33)]
theorem B65_1_ok : ∀ q ∈ B65_1, Ok M65 q.1 q.2 := List.forall_mem_cons.mpr ⟨k_65_18, List.forall_mem_cons.mpr ⟨k_65_21, List.forall_mem_cons.mpr ⟨k_65_23, List.forall_mem_cons.mpr ⟨k_65_24, List.forall_mem_cons.mpr ⟨k_65_27, List.forall_mem_cons.mpr ⟨k_65_30, List.forall_mem_cons.mpr ⟨k_65_31, List.forall_mem_cons.mpr ⟨k_65_32, fun _ h => absurd h List.not_mem_nil⟩⟩⟩⟩⟩⟩⟩⟩
def B65_2 : List (Nat × aO) := [(33, oGe 4 3 36), (36, oLA 0 37), (37, oGe 4 1 40), (40, oCV 2 45 1), (43, oLA 0 44), (44, oGe 4 1 47), (47, oLA 0 48), (48, oGe 4 2 51)]
theorem B65_2_ok : ∀ q ∈ B65_2, Ok M65 q.1 q.2 := List.forall_mem_cons.mpr ⟨k_65_33, List.forall_mem_cons.mpr ⟨k_65_36, List.forall_mem_cons.mpr ⟨k_65_37, List.forall_mem_cons.mpr ⟨k_65_40, List.forall_mem_cons.mpr ⟨k_65_43, List.forall_mem_cons.mpr ⟨k_65_44, List.forall_mem_cons.mpr ⟨k_65_47, List.forall_mem_cons.mpr ⟨k_65_48, fun _ h => absurd h List.not_mem_nil⟩⟩⟩⟩⟩⟩⟩⟩
def B65_3 : List (Nat × aO) := [(51, oCV 0 31 1), (54, oLA 0 55), (55, oCV 4 90 0), (58, oLA 0 59), (59, oGe 4 0 62), (62, oGe 3 4 65), (65, oRI)]
theorem B65_3_ok : ∀ q ∈ B65_3, Ok M65 q.1 q.2 := List.forall_mem_cons.mpr ⟨k_65_51, List.forall_mem_cons.mpr ⟨k_65_54, List.forall_mem_cons.mpr ⟨k_65_55, List.forall_mem_cons.mpr ⟨k_65_58, List.forall_mem_cons.mpr ⟨k_65_59, List.forall_mem_cons.mpr ⟨k_65_62, List.forall_mem_cons.mpr ⟨k_65_65, fun _ h => absurd h List.not_mem_nil⟩⟩⟩⟩⟩⟩⟩
def P65 : List (Nat × List (Nat × aO)) := [(15, B65_0), (32, B65_1), (48, B65_2), (65, B65_3)]
theorem P65_ok : ∀ b ∈ P65, ∀ q ∈ b.2, Ok M65 q.1 q.2 := List.forall_mem_cons.mpr ⟨B65_0_ok, List.forall_mem_cons.mpr ⟨B65_1_ok, List.forall_mem_cons.mpr ⟨B65_2_ok, List.forall_mem_cons.mpr ⟨B65_3_ok, fun _ h => absurd h List.not_mem_nil⟩⟩⟩⟩
theorem k_66_0 : Ok M66 0 (oLI 1 1) := r_iload_n (j := 1) (by decide +kernel) rfl
theorem k_66_1 : Ok M66 1 (oB1 b_if_lt q_lt 9 4) := r_if_lt (off := 8) (by decide +kernel) (by decide +kernel)
theorem k_66_4 : Ok M66 4 (oLI 1 5) := r_iload_n (j := 1) (by decide +kernel) rfl
theorem k_66_5 : Ok M66 5 (oS (gKo (.int 4)) 6) := r_iconst (n := 4) (by decide +kernel) (by decide +kernel)
theorem k_66_6 : Ok M66 6 (oB2 b_icmp_lt q_lt 14 9) := r_icmp_lt (off := 8) (by decide +kernel) (by decide +kernel)
theorem k_66_9 : Ok M66 9 (oLA 0 10) := r_aload_n (j := 0) (by decide +kernel) rfl
theorem k_66_10 : Ok M66 10 (oCV 4 91 0) := r_callV (idx := 47) (by decide +kernel) w_310 cv_91
theorem k_66_13 : Ok M66 13 (oRI) := r_ireturn rfl (by decide +kernel)
theorem k_66_14 : Ok M66 14 (oLA 0 15) := r_aload_n (j := 0) (by decide +kernel) rfl
theorem k_66_15 : Ok M66 15 (oGe 4 0 18) := r_get (idx := 10) (by decide +kernel) cd_4 0 (by decide) w_278 rfl
theorem k_66_18 : Ok M66 18 (oGe 3 2 21) := r_get (idx := 84) (by decide +kernel) cd_3 2 (by decide) w_101 rfl
theorem k_66_21 : Ok M66 21 (oLI 1 22) := r_iload_n (j := 1) (by decide +kernel) rfl
theorem k_66_22 : Ok M66 22 (oAI 23) := r_iaload (by decide +kernel)
theorem k_66_23 : Ok M66 23 (oRI) := r_ireturn rfl (by decide +kernel)
def B66_0 : List (Nat × aO) := [(0, oLI 1 1), (1, oB1 b_if_lt q_lt 9 4), (4, oLI 1 5), (5, oS (gKo (.int 4)) 6), (6, oB2 b_icmp_lt q_lt 14 9), (9, oLA 0 10), (10, oCV 4 91 0), (13, oRI)]
theorem B66_0_ok : ∀ q ∈ B66_0, Ok M66 q.1 q.2 := List.forall_mem_cons.mpr ⟨k_66_0, List.forall_mem_cons.mpr ⟨k_66_1, List.forall_mem_cons.mpr ⟨k_66_4, List.forall_mem_cons.mpr ⟨k_66_5, List.forall_mem_cons.mpr ⟨k_66_6, List.forall_mem_cons.mpr ⟨k_66_9, List.forall_mem_cons.mpr ⟨k_66_10, List.forall_mem_cons.mpr ⟨k_66_13, fun _ h => absurd h List.not_mem_nil⟩⟩⟩⟩⟩⟩⟩⟩
def B66_1 : List (Nat × aO) := [(14, oLA 0 15), (15, oGe 4 0 18), (18, oGe 3 2 21), (21, oLI 1 22), (22, oAI 23), (23, oRI)]
theorem B66_1_ok : ∀ q ∈ B66_1, Ok M66 q.1 q.2 := List.forall_mem_cons.mpr ⟨k_66_14, List.forall_mem_cons.mpr ⟨k_66_15, List.forall_mem_cons.mpr ⟨k_66_18, List.forall_mem_cons.mpr ⟨k_66_21, List.forall_mem_cons.mpr ⟨k_66_22, List.forall_mem_cons.mpr ⟨k_66_23, fun _ h => absurd h List.not_mem_nil⟩⟩⟩⟩⟩⟩
def P66 : List (Nat × List (Nat × aO)) := [(13, B66_0), (23, B66_1)]
theorem P66_ok : ∀ b ∈ P66, ∀ q ∈ b.2, Ok M66 q.1 q.2 := List.forall_mem_cons.mpr ⟨B66_0_ok, List.forall_mem_cons.mpr ⟨B66_1_ok, fun _ h => absurd h List.not_mem_nil⟩⟩
theorem k_67_0 : Ok M67 0 (oLA 0 1) := r_aload_n (j := 0) (by decide +kernel) rfl
theorem k_67_1 : Ok M67 1 (oGe 4 1 4) := r_get (idx := 19) (by decide +kernel) cd_4 1 (by decide) w_279 rfl
theorem k_67_4 : Ok M67 4 (oLI 1 5) := r_iload_n (j := 1) (by decide +kernel) rfl
theorem k_67_5 : Ok M67 5 (oCV 0 1 1) := r_callV (idx := 88) (by decide +kernel) w_428 cv_1
theorem k_67_8 : Ok M67 8 (oB1 b_if_eq q_eq 20 11) := r_if_eq (off := 12) (by decide +kernel) (by decide +kernel)
theorem k_67_11 : Ok M67 11 (oLI 2 12) := r_iload_n (j := 2) (by decide +kernel) rfl
theorem k_67_12 : Ok M67 12 (oB1 b_if_lt q_lt 20 15) := r_if_lt (off := 8) (by decide +kernel) (by decide +kernel)
theorem k_67_15 : Ok M67 15 (oLI 2 16) := r_iload_n (j := 2) (by decide +kernel) rfl
theorem k_67_16 : Ok M67 16 (oS (gKo (.int 4)) 17) := r_iconst (n := 4) (by decide +kernel) (by decide +kernel)
theorem k_67_17 : Ok M67 17 (oB2 b_icmp_lt q_lt 25 20) := r_icmp_lt (off := 8) (by decide +kernel) (by decide +kernel)
theorem k_67_20 : Ok M67 20 (oLA 0 21) := r_aload_n (j := 0) (by decide +kernel) rfl
theorem k_67_21 : Ok M67 21 (oCV 4 91 0) := r_callV (idx := 47) (by decide +kernel) w_310 cv_91
theorem k_67_24 : Ok M67 24 (oRI) := r_ireturn rfl (by decide +kernel)
theorem k_67_25 : Ok M67 25 (oLI 2 26) := r_iload_n (j := 2) (by decide +kernel) rfl
theorem k_67_26 : Ok M67 26 (oTb [52, 62, 72] 82) := r_table (dflt := 56) (hi := 2) (offs := #[26, 36, 46]) (len := 26) (by decide +kernel) (by decide +kernel) (by decide +kernel) (by decide +kernel)
theorem k_67_52 : Ok M67 52 (oLA 0 53) := r_aload_n (j := 0) (by decide +kernel) rfl
theorem k_67_53 : Ok M67 53 (oGe 4 1 56) := r_get (idx := 19) (by decide +kernel) cd_4 1 (by decide) w_279 rfl
theorem k_67_56 : Ok M67 56 (oGe 0 1 59) := r_get (idx := 92) (by decide +kernel) cd_0 1 (by decide) w_135 rfl
theorem k_67_59 : Ok M67 59 (oLI 1 60) := r_iload_n (j := 1) (by decide +kernel) rfl
theorem k_67_60 : Ok M67 60 (oAI 61) := r_iaload (by decide +kernel)
theorem k_67_61 : Ok M67 61 (oRI) := r_ireturn rfl (by decide +kernel)
theorem k_67_62 : Ok M67 62 (oLA 0 63) := r_aload_n (j := 0) (by decide +kernel) rfl
theorem k_67_63 : Ok M67 63 (oGe 4 1 66) := r_get (idx := 19) (by decide +kernel) cd_4 1 (by decide) w_279 rfl
theorem k_67_66 : Ok M67 66 (oGe 0 13 69) := r_get (idx := 95) (by decide +kernel) cd_0 13 (by decide) w_160 rfl
theorem k_67_69 : Ok M67 69 (oLI 1 70) := r_iload_n (j := 1) (by decide +kernel) rfl
theorem k_67_70 : Ok M67 70 (oAI 71) := r_iaload (by decide +kernel)
theorem k_67_71 : Ok M67 71 (oRI) := r_ireturn rfl (by decide +kernel)
theorem k_67_72 : Ok M67 72 (oLA 0 73) := r_aload_n (j := 0) (by decide +kernel) rfl
theorem k_67_73 : Ok M67 73 (oGe 4 1 76) := r_get (idx := 19) (by decide +kernel) cd_4 1 (by decide) w_279 rfl
theorem k_67_76 : Ok M67 76 (oGe 0 14 79) := r_get (idx := 98) (by decide +kernel) cd_0 14 (by decide) w_162 rfl
theorem k_67_79 : Ok M67 79 (oLI 1 80) := r_iload_n (j := 1) (by decide +kernel) rfl
theorem k_67_80 : Ok M67 80 (oAI 81) := r_iaload (by decide +kernel)
theorem k_67_81 : Ok M67 81 (oRI) := r_ireturn rfl (by decide +kernel)
theorem k_67_82 : Ok M67 82 (oLA 0 83) := r_aload_n (j := 0) (by decide +kernel) rfl
theorem k_67_83 : Ok M67 83 (oGe 4 1 86) := r_get (idx := 19) (by decide +kernel) cd_4 1 (by decide) w_279 rfl
theorem k_67_86 : Ok M67 86 (oGe 0 16 89) := r_get (idx := 101) (by decide +kernel) cd_0 16 (by decide) w_167 rfl
theorem k_67_89 : Ok M67 89 (oLI 1 90) := r_iload_n (j := 1) (by decide +kernel) rfl
theorem k_67_90 : Ok M67 90 (oCS 94 2) := r_callS (idx := 104) (by decide +kernel) w_432 cs_94
theorem k_67_93 : Ok M67 93 (oRI) := r_ireturn rfl (by decide +kernel)
def B67_0 : List (Nat × aO) := [(0, oLA 0 1), (1, oGe 4 1 4), (4, oLI 1 5), (5, oCV 0 1 1), (8, oB1 b_if_eq q_eq 20 11), (11, oLI 2 12), (12, oB1 b_if_lt q_lt 20 15), (15, oLI 2 16)]
theorem B67_0_ok : ∀ q ∈ B67_0, Ok M67 q.1 q.2 := List.forall_mem_cons.mpr ⟨k_67_0, List.forall_mem_cons.mpr ⟨k_67_1, List.forall_mem_cons.mpr ⟨k_67_4, List.forall_mem_cons.mpr ⟨k_67_5, List.forall_mem_cons.mpr ⟨k_67_8, List.forall_mem_cons.mpr ⟨k_67_11, List.forall_mem_cons.mpr ⟨k_67_12, List.forall_mem_cons.mpr ⟨k_67_15, fun _ h => absurd h List.not_mem_nil⟩⟩⟩⟩⟩⟩⟩⟩
def B67_1 : List (Nat × aO) := [(16, oS (gKo (.int 4)) 17), (17, oB2 b_icmp_lt q_lt 25 20), (20, oLA 0 21), (21, oCV 4 91 0), (24, oRI), (25, oLI 2 26), (26, oTb [52, 62, 72] 82), (52, oLA 0 53)]
theorem B67_1_ok : ∀ q ∈ B67_1, Ok M67 q.1 q.2 := List.forall_mem_cons.mpr ⟨k_67_16, List.forall_mem_cons.mpr ⟨k_67_17, List.forall_mem_cons.mpr ⟨k_67_20, List.forall_mem_cons.mpr ⟨k_67_21, List.forall_mem_cons.mpr ⟨k_67_24, List.forall_mem_cons.mpr ⟨k_67_25, List.forall_mem_cons.mpr ⟨k_67_26, List.forall_mem_cons.mpr ⟨k_67_52, fun _ h => absurd h List.not_mem_nil⟩⟩⟩⟩⟩⟩⟩⟩
def B67_2 : List (Nat × aO) := [(53, oGe 4 1 56), (56, oGe 0 1 59), (59, oLI 1 60), (60, oAI 61), (61, oRI), (62, oLA 0 63), (63, oGe 4 1 66), (66, oGe 0 13 69)]
theorem B67_2_ok : ∀ q ∈ B67_2, Ok M67 q.1 q.2 := List.forall_mem_cons.mpr ⟨k_67_53, List.forall_mem_cons.mpr ⟨k_67_56, List.forall_mem_cons.mpr ⟨k_67_59, List.forall_mem_cons.mpr ⟨k_67_60, List.forall_mem_cons.mpr ⟨k_67_61, List.forall_mem_cons.mpr ⟨k_67_62, List.forall_mem_cons.mpr ⟨k_67_63, List.forall_mem_cons.mpr ⟨k_67_66, fun _ h => absurd h List.not_mem_nil⟩⟩⟩⟩⟩⟩⟩⟩
def B67_3 : List (Nat × aO) := [(69, oLI 1 70), (70, oAI 71), (71, oRI), (72, oLA 0 73), (73, oGe 4 1 76), (76, oGe 0 14 79), (79, oLI 1 80), (80, oAI 81)]
theorem B67_3_ok : ∀ q ∈ B67_3, Ok M67 q.1 q.2 := List.forall_mem_cons.mpr ⟨k_67_69, List.forall_mem_cons.mpr ⟨k_67_70, List.forall_mem_cons.mpr ⟨k_67_71, List.forall_mem_cons.mpr ⟨k_67_72, List.forall_mem_cons.mpr ⟨k_67_73, List.forall_mem_cons.mpr ⟨k_67_76, List.forall_mem_cons.mpr ⟨k_67_79, List.forall_mem_cons.mpr ⟨k_67_80, fun _ h => absurd h List.not_mem_nil⟩⟩⟩⟩⟩⟩⟩⟩
def B67_4 : List (Nat × aO) := [(81, oRI), (82, oLA 0 83), (83, oGe 4 1 86), (86, oGe 0 16 89), (89, oLI 1 90), (90, oCS 94 2), (93, oRI)]
theorem B67_4_ok : ∀ q ∈ B67_4, Ok M67 q.1 q.2 := List.forall_mem_cons.mpr ⟨k_67_81, List.forall_mem_cons.mpr ⟨k_67_82, List.forall_mem_cons.mpr ⟨k_67_83, List.forall_mem_cons.mpr ⟨k_67_86, List.forall_mem_cons.mpr ⟨k_67_89, List.forall_mem_cons.mpr ⟨k_67_90, List.forall_mem_cons.mpr ⟨k_67_93, fun _ h => absurd h List.not_mem_nil⟩⟩⟩⟩⟩⟩⟩
def P67 : List (Nat × List (Nat × aO)) := [(15, B67_0), (52, B67_1), (66, B67_2), (80, B67_3), (93, B67_4)]
theorem P67_ok : ∀ b ∈ P67, ∀ q ∈ b.2, Ok M67 q.1 q.2 := List.forall_mem_cons.mpr ⟨B67_0_ok, List.forall_mem_cons.mpr ⟨B67_1_ok, List.forall_mem_cons.mpr ⟨B67_2_ok, List.forall_mem_cons.mpr ⟨B67_3_ok, List.forall_mem_cons.mpr ⟨B67_4_ok, fun _ h => absurd h List.not_mem_nil⟩⟩⟩⟩⟩
theorem k_68_0 : Ok M68 0 (oLA 0 1) := r_aload_n (j := 0) (by decide +kernel) rfl
theorem k_68_1 : Ok M68 1 (oGe 4 1 4) := r_get (idx := 19) (by decide +kernel) cd_4 1 (by decide) w_279 rfl
theorem k_68_4 : Ok M68 4 (oLI 1 5) := r_iload_n (j := 1) (by decide +kernel) rfl
theorem k_68_5 : Ok M68 5 (oCV 0 2 1) := r_callV (idx := 108) (by decide +kernel) w_437 cv_2
theorem k_68_8 : Ok M68 8 (oB1 b_if_eq q_eq 21 11) := r_if_eq (off := 13) (by decide +kernel) (by decide +kernel)
theorem k_68_11 : Ok M68 11 (oLI 2 12) := r_iload_n (j := 2) (by decide +kernel) rfl
theorem k_68_12 : Ok M68 12 (oB1 b_if_lt q_lt 21 15) := r_if_lt (off := 9) (by decide +kernel) (by decide +kernel)
theorem k_68_15 : Ok M68 15 (oLI 2 16) := r_iload_n (j := 2) (by decide +kernel) rfl
theorem k_68_16 : Ok M68 16 (oS (gKo (.int 6)) 18) := r_bipush (n := 6) (by decide +kernel) (by decide +kernel)
theorem k_68_18 : Ok M68 18 (oB2 b_icmp_lt q_lt 26 21) := r_icmp_lt (off := 8) (by decide +kernel) (by decide +kernel)
theorem k_68_21 : Ok M68 21 (oLA 0 22) := r_aload_n (j := 0) (by decide +kernel) rfl
theorem k_68_22 : Ok M68 22 (oCV 4 91 0) := r_callV (idx := 47) (by decide +kernel) w_310 cv_91
theorem k_68_25 : Ok M68 25 (oRI) := r_ireturn rfl (by decide +kernel)
theorem k_68_26 : Ok M68 26 (oLI 2 27) := r_iload_n (j := 2) (by decide +kernel) rfl
theorem k_68_27 : Ok M68 27 (oTb [60, 70, 82, 91, 101] 110) := r_table (dflt := 83) (hi := 4) (offs := #[33, 43, 55, 64, 74]) (len := 33) (by decide +kernel) (by decide +kernel) (by decide +kernel) (by decide +kernel)
theorem k_68_60 : Ok M68 60 (oLA 0 61) := r_aload_n (j := 0) (by decide +kernel) rfl
theorem k_68_61 : Ok M68 61 (oGe 4 1 64) := r_get (idx := 19) (by decide +kernel) cd_4 1 (by decide) w_279 rfl
theorem k_68_64 : Ok M68 64 (oGe 0 3 67) := r_get (idx := 111) (by decide +kernel) cd_0 3 (by decide) w_141 rfl
theorem k_68_67 : Ok M68 67 (oLI 1 68) := r_iload_n (j := 1) (by decide +kernel) rfl
theorem k_68_68 : Ok M68 68 (oAI 69) := r_iaload (by decide +kernel)
theorem k_68_69 : Ok M68 69 (oRI) := r_ireturn rfl (by decide +kernel)
theorem k_68_70 : Ok M68 70 (oLA 0 71) := r_aload_n (j := 0) (by decide +kernel) rfl
theorem k_68_71 : Ok M68 71 (oGe 4 1 74) := r_get (idx := 19) (by decide +kernel) cd_4 1 (by decide) w_279 rfl
theorem k_68_74 : Ok M68 74 (oGe 0 15 77) := r_get (idx := 114) (by decide +kernel) cd_0 15 (by decide) w_164 rfl
theorem k_68_77 : Ok M68 77 (oLI 1 78) := r_iload_n (j := 1) (by decide +kernel) rfl
theorem k_68_78 : Ok M68 78 (oCS 94 2) := r_callS (idx := 104) (by decide +kernel) w_432 cs_94
theorem k_68_81 : Ok M68 81 (oRI) := r_ireturn rfl (by decide +kernel)
theorem k_68_82 : Ok M68 82 (oLA 0 83) := r_aload_n (j := 0) (by decide +kernel) rfl
theorem k_68_83 : Ok M68 83 (oGe 4 1 86) := r_get (idx := 19) (by decide +kernel) cd_4 1 (by decide) w_279 rfl
theorem k_68_86 : Ok M68 86 (oLI 1 87) := r_iload_n (j := 1) (by decide +kernel) rfl
theorem k_68_87 : Ok M68 87 (oCV 0 8 1) := r_callV (idx := 117) (by decide +kernel) w_441 cv_8
theorem k_68_90 : Ok M68 90 (oRI) := r_ireturn rfl (by decide +kernel)
theorem k_68_91 : Ok M68 91 (oLA 0 92) := r_aload_n (j := 0) (by decide +kernel) rfl
theorem k_68_92 : Ok M68 92 (oGe 4 1 95) := r_get (idx := 19) (by decide +kernel) cd_4 1 (by decide) w_279 rfl
theorem k_68_95 : Ok M68 95 (oGe 0 10 98) := r_get (idx := 120) (by decide +kernel) cd_0 10 (by decide) w_154 rfl
theorem k_68_98 : Ok M68 98 (oLI 1 99) := r_iload_n (j := 1) (by decide +kernel) rfl
theorem k_68_99 : Ok M68 99 (oAI 100) := r_iaload (by decide +kernel)
theorem k_68_100 : Ok M68 100 (oRI) := r_ireturn rfl (by decide +kernel)
theorem k_68_101 : Ok M68 101 (oLA 0 102) := r_aload_n (j := 0) (by decide +kernel) rfl
theorem k_68_102 : Ok M68 102 (oGe 4 1 105) := r_get (idx := 19) (by decide +kernel) cd_4 1 (by decide) w_279 rfl
theorem k_68_105 : Ok M68 105 (oLI 1 106) := r_iload_n (j := 1) (by decide +kernel) rfl
theorem k_68_106 : Ok M68 106 (oCV 0 7 1) := r_callV (idx := 123) (by decide +kernel) w_449 cv_7
theorem k_68_109 : Ok M68 109 (oRI) := r_ireturn rfl (by decide +kernel)
theorem k_68_110 : Ok M68 110 (oLA 0 111) := r_aload_n (j := 0) (by decide +kernel) rfl
theorem k_68_111 : Ok M68 111 (oGe 4 1 114) := r_get (idx := 19) (by decide +kernel) cd_4 1 (by decide) w_279 rfl
theorem k_68_114 : Ok M68 114 (oLI 1 115) := r_iload_n (j := 1) (by decide +kernel) rfl
theorem k_68_115 : Ok M68 115 (oCV 0 9 1) := r_callV (idx := 126) (by decide +kernel) w_457 cv_9
theorem k_68_118 : Ok M68 118 (oRI) := r_ireturn rfl (by decide +kernel)
def B68_0 : List (Nat × aO) := [(0, oLA 0 1), (1, oGe 4 1 4), (4, oLI 1 5), (5, oCV 0 2 1), (8, oB1 b_if_eq q_eq 21 11), (11, oLI 2 12), (12, oB1 b_if_lt q_lt 21 15), (15, oLI 2 16)]
theorem B68_0_ok : ∀ q ∈ B68_0, Ok M68 q.1 q.2 := List.forall_mem_cons.mpr ⟨k_68_0, List.forall_mem_cons.mpr ⟨k_68_1, List.forall_mem_cons.mpr ⟨k_68_4, List.forall_mem_cons.mpr ⟨k_68_5, List.forall_mem_cons.mpr ⟨k_68_8, List.forall_mem_cons.mpr ⟨k_68_11, List.forall_mem_cons.mpr ⟨k_68_12, List.forall_mem_cons.mpr ⟨k_68_15, fun _ h => absurd h List.not_mem_nil⟩⟩⟩⟩⟩⟩⟩⟩
def B68_1 : List (Nat × aO) := [(16, oS (gKo (.int 6)) 18), (18, oB2 b_icmp_lt q_lt 26 21), (21, oLA 0 22), (22, oCV 4 91 0), (25, oRI), (26, oLI 2 27), (27, oTb [60, 70, 82, 91, 101] 110), (60, oLA 0 61)]
theorem B68_1_ok : ∀ q ∈ B68_1, Ok M68 q.1 q.2 := List.forall_mem_cons.mpr ⟨k_68_16, List.forall_mem_cons.mpr ⟨k_68_18, List.forall_mem_cons.mpr ⟨k_68_21, List.forall_mem_cons.mpr ⟨k_68_22, List.forall_mem_cons.mpr ⟨k_68_25, List.forall_mem_cons.mpr ⟨k_68_26, List.forall_mem_cons.mpr ⟨k_68_27, List.forall_mem_cons.mpr ⟨k_68_60, fun _ h => absurd h List.not_mem_nil⟩⟩⟩⟩⟩⟩⟩⟩
def B68_2 : List (Nat × aO) := [(61, oGe 4 1 64), (64, oGe 0 3 67), (67, oLI 1 68), (68, oAI 69), (69, oRI), (70, oLA 0 71), (71, oGe 4 1 74), (74, oGe 0 15 77)]
theorem B68_2_ok : ∀ q ∈ B68_2, Ok M68 q.1 q.2 := List.forall_mem_cons.mpr ⟨k_68_61, List.forall_mem_cons.mpr ⟨k_68_64, List.forall_mem_cons.mpr ⟨k_68_67, List.forall_mem_cons.mpr ⟨k_68_68, List.forall_mem_cons.mpr ⟨k_68_69, List.forall_mem_cons.mpr ⟨k_68_70, List.forall_mem_cons.mpr ⟨k_68_71, List.forall_mem_cons.mpr ⟨k_68_74, fun _ h => absurd h List.not_mem_nil⟩⟩⟩⟩⟩⟩⟩⟩
def B68_3 : List (Nat × aO) := [(77, oLI 1 78), (78, oCS 94 2), (81, oRI), (82, oLA 0 83), (83, oGe 4 1 86), (86, oLI 1 87), (87, oCV 0 8 1), (90, oRI)]
theorem B68_3_ok : ∀ q ∈ B68_3, Ok M68 q.1 q.2 := List.forall_mem_cons.mpr ⟨k_68_77, List.forall_mem_cons.mpr ⟨k_68_78, List.forall_mem_cons.mpr ⟨k_68_81, List.forall_mem_cons.mpr ⟨k_68_82, List.forall_mem_cons.mpr ⟨k_68_83, List.forall_mem_cons.mpr ⟨k_68_86, List.forall_mem_cons.mpr ⟨k_68_87, List.forall_mem_cons.mpr ⟨k_68_90, fun _ h => absurd h List.not_mem_nil⟩⟩⟩⟩⟩⟩⟩⟩
def B68_4 : List (Nat × aO) := [(91, oLA 0 92), (92, oGe 4 1 95), (95, oGe 0 10 98), (98, oLI 1 99), (99, oAI 100), (100, oRI), (101, oLA 0 102), (102, oGe 4 1 105)]
theorem B68_4_ok : ∀ q ∈ B68_4, Ok M68 q.1 q.2 := List.forall_mem_cons.mpr ⟨k_68_91, List.forall_mem_cons.mpr ⟨k_68_92, List.forall_mem_cons.mpr ⟨k_68_95, List.forall_mem_cons.mpr ⟨k_68_98, List.forall_mem_cons.mpr ⟨k_68_99, List.forall_mem_cons.mpr ⟨k_68_100, List.forall_mem_cons.mpr ⟨k_68_101, List.forall_mem_cons.mpr ⟨k_68_102, fun _ h => absurd h List.not_mem_nil⟩⟩⟩⟩⟩⟩⟩⟩
def B68_5 : List (Nat × aO) := [(105, oLI 1 106), (106, oCV 0 7 1), (109, oRI), (110, oLA 0 111), (111, oGe 4 1 114), (114, oLI 1 115), (115, oCV 0 9 1), (118, oRI)]
theorem B68_5_ok : ∀ q ∈ B68_5, Ok M68 q.1 q.2 := List.forall_mem_cons.mpr ⟨k_68_105, List.forall_mem_cons.mpr ⟨k_68_106, List.forall_mem_cons.mpr ⟨k_68_109, List.forall_mem_cons.mpr ⟨k_68_110, List.forall_mem_cons.mpr ⟨k_68_111, List.forall_mem_cons.mpr ⟨k_68_114, List.forall_mem_cons.mpr ⟨k_68_115, List.forall_mem_cons.mpr ⟨k_68_118, fun _ h => absurd h List.not_mem_nil⟩⟩⟩⟩⟩⟩⟩⟩
def P68 : List (Nat × List (Nat × aO)) := [(15, B68_0), (60, B68_1), (74, B68_2), (90, B68_3), (102, B68_4), (118, B68_5)]
theorem P68_ok : ∀ b ∈ P68, ∀ q ∈ b.2, Ok M68 q.1 q.2 := List.forall_mem_cons.mpr ⟨B68_0_ok, List.forall_mem_cons.mpr ⟨B68_1_ok, List.forall_mem_cons.mpr ⟨B68_2_ok, List.forall_mem_cons.mpr ⟨B68_3_ok, List.forall_mem_cons.mpr ⟨B68_4_ok, List.forall_mem_cons.mpr ⟨B68_5_ok, fun _ h => absurd h List.not_mem_nil⟩⟩⟩⟩⟩⟩
theorem k_69_0 : Ok M69 0 (oLA 0 1) := r_aload_n (j := 0) (by decide +kernel) rfl
theorem k_69_1 : Ok M69 1 (oGe 4 1 4) := r_get (idx := 19) (by decide +kernel) cd_4 1 (by decide) w_279 rfl
theorem k_69_4 : Ok M69 4 (oLI 1 5) := r_iload_n (j := 1) (by decide +kernel) rfl
theorem k_69_5 : Ok M69 5 (oCV 0 2 1) := r_callV (idx := 108) (by decide +kernel) w_437 cv_2
theorem k_69_8 : Ok M69 8 (oB1 b_if_eq q_eq 22 11) := r_if_eq (off := 14) (by decide +kernel) (by decide +kernel)
theorem k_69_11 : Ok M69 11 (oLA 0 12) := r_aload_n (j := 0) (by decide +kernel) rfl
theorem k_69_12 : Ok M69 12 (oGe 4 1 15) := r_get (idx := 19) (by decide +kernel) cd_4 1 (by decide) w_279 rfl
theorem k_69_15 : Ok M69 15 (oLI 2 16) := r_iload_n (j := 2) (by decide +kernel) rfl
theorem k_69_16 : Ok M69 16 (oCV 0 1 1) := r_callV (idx := 88) (by decide +kernel) w_428 cv_1
theorem k_69_19 : Ok M69 19 (oB1 b_if_ne q_ne 27 22) := r_if_ne (off := 8) (by decide +kernel) (by decide +kernel)
theorem k_69_22 : Ok M69 22 (oLA 0 23) := r_aload_n (j := 0) (by decide +kernel) rfl
theorem k_69_23 : Ok M69 23 (oCV 4 91 0) := r_callV (idx := 47) (by decide +kernel) w_310 cv_91
theorem k_69_26 : Ok M69 26 (oRI) := r_ireturn rfl (by decide +kernel)
theorem k_69_27 : Ok M69 27 (oLA 0 28) := r_aload_n (j := 0) (by decide +kernel) rfl
theorem k_69_28 : Ok M69 28 (oGe 4 1 31) := r_get (idx := 19) (by decide +kernel) cd_4 1 (by decide) w_279 rfl
theorem k_69_31 : Ok M69 31 (oLI 1 32) := r_iload_n (j := 1) (by decide +kernel) rfl
theorem k_69_32 : Ok M69 32 (oLI 2 33) := r_iload_n (j := 2) (by decide +kernel) rfl
theorem k_69_33 : Ok M69 33 (oCV 0 3 2) := r_callV (idx := 129) (by decide +kernel) w_465 cv_3
theorem k_69_36 : Ok M69 36 (oRI) := r_ireturn rfl (by decide +kernel)
def B69_0 : List (Nat × aO) := [(0, oLA 0 1), (1, oGe 4 1 4), (4, oLI 1 5), (5, oCV 0 2 1), (8, oB1 b_if_eq q_eq 22 11), (11, oLA 0 12), (12, oGe 4 1 15), (15, oLI 2 16)]
theorem B69_0_ok : ∀ q ∈ B69_0, Ok M69 q.1 q.2 := List.forall_mem_cons.mpr ⟨k_69_0, List.forall_mem_cons.mpr ⟨k_69_1, List.forall_mem_cons.mpr ⟨k_69_4, List.forall_mem_cons.mpr ⟨k_69_5, List.forall_mem_cons.mpr ⟨k_69_8, List.forall_mem_cons.mpr ⟨k_69_11, List.forall_mem_cons.mpr ⟨k_69_12, List.forall_mem_cons.mpr ⟨k_69_15, fun _ h => absurd h List.not_mem_nil⟩⟩⟩⟩⟩⟩⟩⟩
def B69_1 : List (Nat × aO) := [(16, oCV 0 1 1), (19, oB1 b_if_ne q_ne 27 22), (22, oLA 0 23), (23, oCV 4 91 0), (26, oRI), (27, oLA 0 28), (28, oGe 4 1 31), (31, oLI 1 32)]
theorem B69_1_ok : ∀ q ∈ B69_1, Ok M69 q.1 q.2 := List.forall_mem_cons.mpr ⟨k_69_16, List.forall_mem_cons.mpr ⟨k_69_19, List.forall_mem_cons.mpr ⟨k_69_22, List.forall_mem_cons.mpr ⟨k_69_23, List.forall_mem_cons.mpr ⟨k_69_26, List.forall_mem_cons.mpr ⟨k_69_27, List.forall_mem_cons.mpr ⟨k_69_28, List.forall_mem_cons.mpr ⟨k_69_31, fun _ h => absurd h List.not_mem_nil⟩⟩⟩⟩⟩⟩⟩⟩
def B69_2 : List (Nat × aO) := [(32, oLI 2 33), (33, oCV 0 3 2), (36, oRI)]
theorem B69_2_ok : ∀ q ∈ B69_2, Ok M69 q.1 q.2 := List.forall_mem_cons.mpr ⟨k_69_32, List.forall_mem_cons.mpr ⟨k_69_33, List.forall_mem_cons.mpr ⟨k_69_36, fun _ h => absurd h List.not_mem_nil⟩⟩⟩
def P69 : List (Nat × List (Nat × aO)) := [(15, B69_0), (31, B69_1), (36, B69_2)]
theorem P69_ok : ∀ b ∈ P69, ∀ q ∈ b.2, Ok M69 q.1 q.2 := List.forall_mem_cons.mpr ⟨B69_0_ok, List.forall_mem_cons.mpr ⟨B69_1_ok, List.forall_mem_cons.mpr ⟨B69_2_ok, fun _ h => absurd h List.not_mem_nil⟩⟩⟩
