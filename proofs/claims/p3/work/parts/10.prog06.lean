theorem k_115_0 : Ok M115 0 (oLA 0 1) := r_aload_n (j := 0) (by decide +kernel) rfl
theorem k_115_1 : Ok M115 1 (oS (gKo (.int 2)) 2) := r_iconst (n := 2) (by decide +kernel) (by decide +kernel)
theorem k_115_2 : Ok M115 2 (oS (gKo (.int 0)) 3) := r_iconst (n := 0) (by decide +kernel) (by decide +kernel)
theorem k_115_3 : Ok M115 3 (oCV 5 110 2) := r_callV (idx := 82) (by decide +kernel) w_771 cv_110
theorem k_115_6 : Ok M115 6 (oLA 0 7) := r_aload_n (j := 0) (by decide +kernel) rfl
theorem k_115_7 : Ok M115 7 (oCV 5 107 0) := r_callV (idx := 64) (by decide +kernel) w_775 cv_107
theorem k_115_10 : Ok M115 10 (oS gIL 11) := r_i2l (by decide +kernel)
theorem k_115_11 : Ok M115 11 (oK (.long 48) 14) := r_ldc2 (i := 68) (by decide +kernel) w_783
theorem k_115_14 : Ok M115 14 (oK (.long 52) 17) := r_ldc2 (i := 109) (by decide +kernel) w_784
theorem k_115_17 : Ok M115 17 (oCS 96 3) := r_callS (idx := 48) (by decide +kernel) w_744 cs_96
theorem k_115_20 : Ok M115 20 (oB1 b_if_ne q_ne 25 23) := r_if_ne (off := 5) (by decide +kernel) (by decide +kernel)
theorem k_115_23 : Ok M115 23 (oS (gKo (.int 0)) 24) := r_iconst (n := 0) (by decide +kernel) (by decide +kernel)
theorem k_115_24 : Ok M115 24 (oRZ) := r_zreturn rfl (by decide +kernel)
theorem k_115_25 : Ok M115 25 (oLA 0 26) := r_aload_n (j := 0) (by decide +kernel) rfl
theorem k_115_26 : Ok M115 26 (oGe 5 0 29) := r_get (idx := 7) (by decide +kernel) cd_5 0 (by decide) w_678 rfl
theorem k_115_29 : Ok M115 29 (oS (gKo (.int 2)) 30) := r_iconst (n := 2) (by decide +kernel) (by decide +kernel)
theorem k_115_30 : Ok M115 30 (oLA 0 31) := r_aload_n (j := 0) (by decide +kernel) rfl
theorem k_115_31 : Ok M115 31 (oCV 5 107 0) := r_callV (idx := 64) (by decide +kernel) w_775 cv_107
theorem k_115_34 : Ok M115 34 (oS (gKo (.int 48)) 36) := r_bipush (n := 48) (by decide +kernel) (by decide +kernel)
theorem k_115_36 : Ok M115 36 (oS (gI2 f_isub) 37) := r_isub (by decide +kernel)
theorem k_115_37 : Ok M115 37 (oAT 38) := r_iastore (by decide +kernel)
theorem k_115_38 : Ok M115 38 (oLA 0 39) := r_aload_n (j := 0) (by decide +kernel) rfl
theorem k_115_39 : Ok M115 39 (oS gDu 40) := r_dup (by decide +kernel)
theorem k_115_40 : Ok M115 40 (oGe 5 6 43) := r_get (idx := 61) (by decide +kernel) cd_5 6 (by decide) w_684 rfl
theorem k_115_43 : Ok M115 43 (oS (gKo (.int 1)) 44) := r_iconst (n := 1) (by decide +kernel) (by decide +kernel)
theorem k_115_44 : Ok M115 44 (oS (gI2 f_iadd) 45) := r_iadd (by decide +kernel)
theorem k_115_45 : Ok M115 45 (oPI 5 6 48) := r_putI (idx := 61) (by decide +kernel) cd_5 6 (by decide) w_684 rfl rfl (by decide +kernel)
theorem k_115_48 : Ok M115 48 (oLA 0 49) := r_aload_n (j := 0) (by decide +kernel) rfl
theorem k_115_49 : Ok M115 49 (oS (gKo (.int 5)) 50) := r_iconst (n := 5) (by decide +kernel) (by decide +kernel)
theorem k_115_50 : Ok M115 50 (oS (gKo (.int 0)) 51) := r_iconst (n := 0) (by decide +kernel) (by decide +kernel)
theorem k_115_51 : Ok M115 51 (oCV 5 110 2) := r_callV (idx := 82) (by decide +kernel) w_771 cv_110
theorem k_115_54 : Ok M115 54 (oLA 0 55) := r_aload_n (j := 0) (by decide +kernel) rfl
theorem k_115_55 : Ok M115 55 (oS (gKo (.int 59)) 57) := r_bipush (n := 59) (by decide +kernel) (by decide +kernel)
theorem k_115_57 : Ok M115 57 (oCV 5 111 1) := r_callV (idx := 96) (by decide +kernel) w_785 cv_111
theorem k_115_60 : Ok M115 60 (oRZ) := r_zreturn rfl (by decide +kernel)
def B115_0 : List (Nat × aO) := [(0, oLA 0 1), (1, oS (gKo (.int 2)) 2), (2, oS (gKo (.int 0)) 3), (3, oCV 5 110 2), (6, oLA 0 7), (7, oCV 5 107 0), (10, oS gIL 11), (11, oK (.long 48) 14)]
theorem B115_0_ok : ∀ q ∈ B115_0, Ok M115 q.1 q.2 := List.forall_mem_cons.mpr ⟨k_115_0, List.forall_mem_cons.mpr ⟨k_115_1, List.forall_mem_cons.mpr ⟨k_115_2, List.forall_mem_cons.mpr ⟨k_115_3, List.forall_mem_cons.mpr ⟨k_115_6, List.forall_mem_cons.mpr ⟨k_115_7, List.forall_mem_cons.mpr ⟨k_115_10, List.forall_mem_cons.mpr ⟨k_115_11, fun _ h => absurd h List.not_mem_nil⟩⟩⟩⟩⟩⟩⟩⟩
def B115_1 : List (Nat × aO) := [(14, oK (.long 52) 17), (17, oCS 96 3), (20, oB1 b_if_ne q_ne 25 23), (23, oS (gKo (.int 0)) 24), (24, oRZ), (25, oLA 0 26), (26, oGe 5 0 29), (29, oS (gKo (.int 2)) 30)]
theorem B115_1_ok : ∀ q ∈ B115_1, Ok M115 q.1 q.2 := List.forall_mem_cons.mpr ⟨k_115_14, List.forall_mem_cons.mpr ⟨k_115_17, List.forall_mem_cons.mpr ⟨k_115_20, List.forall_mem_cons.mpr ⟨k_115_23, List.forall_mem_cons.mpr ⟨k_115_24, List.forall_mem_cons.mpr ⟨k_115_25, List.forall_mem_cons.mpr ⟨k_115_26, List.forall_mem_cons.mpr ⟨k_115_29, fun _ h => absurd h List.not_mem_nil⟩⟩⟩⟩⟩⟩⟩⟩
def B115_2 : List (Nat × aO) := [(30, oLA 0 31), (31, oCV 5 107 0), (34, oS (gKo (.int 48)) 36), (36, oS (gI2 f_isub) 37), (37, oAT 38), (38, oLA 0 39), (39, oS gDu 40), (40, oGe 5 6 43)]
theorem B115_2_ok : ∀ q ∈ B115_2, Ok M115 q.1 q.2 := List.forall_mem_cons.mpr ⟨k_115_30, List.forall_mem_cons.mpr ⟨k_115_31, List.forall_mem_cons.mpr ⟨k_115_34, List.forall_mem_cons.mpr ⟨k_115_36, List.forall_mem_cons.mpr ⟨k_115_37, List.forall_mem_cons.mpr ⟨k_115_38, List.forall_mem_cons.mpr ⟨k_115_39, List.forall_mem_cons.mpr ⟨k_115_40, fun _ h => absurd h List.not_mem_nil⟩⟩⟩⟩⟩⟩⟩⟩
def B115_3 : List (Nat × aO) := [(43, oS (gKo (.int 1)) 44), (44, oS (gI2 f_iadd) 45), (45, oPI 5 6 48), (48, oLA 0 49), (49, oS (gKo (.int 5)) 50), (50, oS (gKo (.int 0)) 51), (51, oCV 5 110 2), (54, oLA 0 55)]
theorem B115_3_ok : ∀ q ∈ B115_3, Ok M115 q.1 q.2 := List.forall_mem_cons.mpr ⟨k_115_43, List.forall_mem_cons.mpr ⟨k_115_44, List.forall_mem_cons.mpr ⟨k_115_45, List.forall_mem_cons.mpr ⟨k_115_48, List.forall_mem_cons.mpr ⟨k_115_49, List.forall_mem_cons.mpr ⟨k_115_50, List.forall_mem_cons.mpr ⟨k_115_51, List.forall_mem_cons.mpr ⟨k_115_54, fun _ h => absurd h List.not_mem_nil⟩⟩⟩⟩⟩⟩⟩⟩
def B115_4 : List (Nat × aO) := [(55, oS (gKo (.int 59)) 57), (57, oCV 5 111 1), (60, oRZ)]
theorem B115_4_ok : ∀ q ∈ B115_4, Ok M115 q.1 q.2 := List.forall_mem_cons.mpr ⟨k_115_55, List.forall_mem_cons.mpr ⟨k_115_57, List.forall_mem_cons.mpr ⟨k_115_60, fun _ h => absurd h List.not_mem_nil⟩⟩⟩
def P115 : List (Nat × List (Nat × aO)) := [(11, B115_0), (29, B115_1), (40, B115_2), (54, B115_3), (60, B115_4)]
theorem P115_ok : ∀ b ∈ P115, ∀ q ∈ b.2, Ok M115 q.1 q.2 := List.forall_mem_cons.mpr ⟨B115_0_ok, List.forall_mem_cons.mpr ⟨B115_1_ok, List.forall_mem_cons.mpr ⟨B115_2_ok, List.forall_mem_cons.mpr ⟨B115_3_ok, List.forall_mem_cons.mpr ⟨B115_4_ok, fun _ h => absurd h List.not_mem_nil⟩⟩⟩⟩⟩
theorem k_116_0 : Ok M116 0 (oLA 0 1) := r_aload_n (j := 0) (by decide +kernel) rfl
theorem k_116_1 : Ok M116 1 (oS (gKo (.int 0)) 2) := r_iconst (n := 0) (by decide +kernel) (by decide +kernel)
theorem k_116_2 : Ok M116 2 (oS (gKo (.int 0)) 3) := r_iconst (n := 0) (by decide +kernel) (by decide +kernel)
theorem k_116_3 : Ok M116 3 (oCV 5 110 2) := r_callV (idx := 82) (by decide +kernel) w_771 cv_110
theorem k_116_6 : Ok M116 6 (oLA 0 7) := r_aload_n (j := 0) (by decide +kernel) rfl
theorem k_116_7 : Ok M116 7 (oCV 5 107 0) := r_callV (idx := 64) (by decide +kernel) w_775 cv_107
theorem k_116_10 : Ok M116 10 (oSI 1 3 11) := r_istore_n (j := 1) (by decide +kernel) rfl
theorem k_116_11 : Ok M116 11 (oLI 1 12) := r_iload_n (j := 1) (by decide +kernel) rfl
theorem k_116_12 : Ok M116 12 (oS (gKo (.int 37)) 14) := r_bipush (n := 37) (by decide +kernel) (by decide +kernel)
theorem k_116_14 : Ok M116 14 (oB2 b_icmp_eq q_eq 59 17) := r_icmp_eq (off := 45) (by decide +kernel) (by decide +kernel)
theorem k_116_17 : Ok M116 17 (oLI 1 18) := r_iload_n (j := 1) (by decide +kernel) rfl
theorem k_116_18 : Ok M116 18 (oS (gKo (.int 61)) 20) := r_bipush (n := 61) (by decide +kernel) (by decide +kernel)
theorem k_116_20 : Ok M116 20 (oB2 b_icmp_ne q_ne 43 23) := r_icmp_ne (off := 23) (by decide +kernel) (by decide +kernel)
theorem k_116_23 : Ok M116 23 (oLA 0 24) := r_aload_n (j := 0) (by decide +kernel) rfl
theorem k_116_24 : Ok M116 24 (oGe 5 0 27) := r_get (idx := 7) (by decide +kernel) cd_5 0 (by decide) w_678 rfl
theorem k_116_27 : Ok M116 27 (oS (gKo (.int 0)) 28) := r_iconst (n := 0) (by decide +kernel) (by decide +kernel)
theorem k_116_28 : Ok M116 28 (oAI 29) := r_iaload (by decide +kernel)
theorem k_116_29 : Ok M116 29 (oS (gKo (.int 6)) 31) := r_bipush (n := 6) (by decide +kernel) (by decide +kernel)
theorem k_116_31 : Ok M116 31 (oB2 b_icmp_ge q_ge 43 34) := r_icmp_ge (off := 12) (by decide +kernel) (by decide +kernel)
theorem k_116_34 : Ok M116 34 (oLA 0 35) := r_aload_n (j := 0) (by decide +kernel) rfl
theorem k_116_35 : Ok M116 35 (oGe 5 0 38) := r_get (idx := 7) (by decide +kernel) cd_5 0 (by decide) w_678 rfl
theorem k_116_38 : Ok M116 38 (oS (gKo (.int 1)) 39) := r_iconst (n := 1) (by decide +kernel) (by decide +kernel)
theorem k_116_39 : Ok M116 39 (oAI 40) := r_iaload (by decide +kernel)
theorem k_116_40 : Ok M116 40 (oB1 b_if_eq q_eq 59 43) := r_if_eq (off := 19) (by decide +kernel) (by decide +kernel)
theorem k_116_43 : Ok M116 43 (oLI 1 44) := r_iload_n (j := 1) (by decide +kernel) rfl
theorem k_116_44 : Ok M116 44 (oS (gKo (.int 43)) 46) := r_bipush (n := 43) (by decide +kernel) (by decide +kernel)
theorem k_116_46 : Ok M116 46 (oB2 b_icmp_ne q_ne 63 49) := r_icmp_ne (off := 17) (by decide +kernel) (by decide +kernel)
theorem k_116_49 : Ok M116 49 (oLA 0 50) := r_aload_n (j := 0) (by decide +kernel) rfl
theorem k_116_50 : Ok M116 50 (oGe 5 0 53) := r_get (idx := 7) (by decide +kernel) cd_5 0 (by decide) w_678 rfl
theorem k_116_53 : Ok M116 53 (oS (gKo (.int 1)) 54) := r_iconst (n := 1) (by decide +kernel) (by decide +kernel)
theorem k_116_54 : Ok M116 54 (oAI 55) := r_iaload (by decide +kernel)
theorem k_116_55 : Ok M116 55 (oS (gKo (.int 4)) 56) := r_iconst (n := 4) (by decide +kernel) (by decide +kernel)
theorem k_116_56 : Ok M116 56 (oB2 b_icmp_ge q_ge 63 59) := r_icmp_ge (off := 7) (by decide +kernel) (by decide +kernel)
theorem k_116_59 : Ok M116 59 (oS (gKo (.int 1)) 60) := r_iconst (n := 1) (by decide +kernel) (by decide +kernel)
theorem k_116_60 : Ok M116 60 (oGo 64) := r_goto (off := 4) (by decide +kernel) (by decide +kernel)
theorem k_116_63 : Ok M116 63 (oS (gKo (.int 0)) 64) := r_iconst (n := 0) (by decide +kernel) (by decide +kernel)
theorem k_116_64 : Ok M116 64 (oSI 2 3 65) := r_istore_n (j := 2) (by decide +kernel) rfl
theorem k_116_65 : Ok M116 65 (oLI 2 66) := r_iload_n (j := 2) (by decide +kernel) rfl
theorem k_116_66 : Ok M116 66 (oB1 b_if_ne q_ne 71 69) := r_if_ne (off := 5) (by decide +kernel) (by decide +kernel)
theorem k_116_69 : Ok M116 69 (oS (gKo (.int 0)) 70) := r_iconst (n := 0) (by decide +kernel) (by decide +kernel)
theorem k_116_70 : Ok M116 70 (oRZ) := r_zreturn rfl (by decide +kernel)
theorem k_116_71 : Ok M116 71 (oLA 0 72) := r_aload_n (j := 0) (by decide +kernel) rfl
theorem k_116_72 : Ok M116 72 (oS gDu 73) := r_dup (by decide +kernel)
theorem k_116_73 : Ok M116 73 (oGe 5 6 76) := r_get (idx := 61) (by decide +kernel) cd_5 6 (by decide) w_684 rfl
theorem k_116_76 : Ok M116 76 (oS (gKo (.int 1)) 77) := r_iconst (n := 1) (by decide +kernel) (by decide +kernel)
theorem k_116_77 : Ok M116 77 (oS (gI2 f_iadd) 78) := r_iadd (by decide +kernel)
theorem k_116_78 : Ok M116 78 (oPI 5 6 81) := r_putI (idx := 61) (by decide +kernel) cd_5 6 (by decide) w_684 rfl rfl (by decide +kernel)
theorem k_116_81 : Ok M116 81 (oLI 1 82) := r_iload_n (j := 1) (by decide +kernel) rfl
theorem k_116_82 : Ok M116 82 (oS (gKo (.int 37)) 84) := r_bipush (n := 37) (by decide +kernel) (by decide +kernel)
theorem k_116_84 : Ok M116 84 (oB2 b_icmp_ne q_ne 94 87) := r_icmp_ne (off := 10) (by decide +kernel) (by decide +kernel)
theorem k_116_87 : Ok M116 87 (oLA 0 88) := r_aload_n (j := 0) (by decide +kernel) rfl
theorem k_116_88 : Ok M116 88 (oCV 5 115 0) := r_callV (idx := 111) (by decide +kernel) w_779 cv_115
theorem k_116_91 : Ok M116 91 (oGo 111) := r_goto (off := 20) (by decide +kernel) (by decide +kernel)
theorem k_116_94 : Ok M116 94 (oLI 1 95) := r_iload_n (j := 1) (by decide +kernel) rfl
theorem k_116_95 : Ok M116 95 (oS (gKo (.int 61)) 97) := r_bipush (n := 61) (by decide +kernel) (by decide +kernel)
theorem k_116_97 : Ok M116 97 (oB2 b_icmp_ne q_ne 107 100) := r_icmp_ne (off := 10) (by decide +kernel) (by decide +kernel)
theorem k_116_100 : Ok M116 100 (oLA 0 101) := r_aload_n (j := 0) (by decide +kernel) rfl
theorem k_116_101 : Ok M116 101 (oCV 5 112 0) := r_callV (idx := 114) (by decide +kernel) w_793 cv_112
theorem k_116_104 : Ok M116 104 (oGo 111) := r_goto (off := 7) (by decide +kernel) (by decide +kernel)
theorem k_116_107 : Ok M116 107 (oLA 0 108) := r_aload_n (j := 0) (by decide +kernel) rfl
theorem k_116_108 : Ok M116 108 (oCV 5 114 0) := r_callV (idx := 117) (by decide +kernel) w_802 cv_114
theorem k_116_111 : Ok M116 111 (oRZ) := r_zreturn rfl (by decide +kernel)
def B116_0 : List (Nat × aO) := [(0, oLA 0 1), (1, oS (gKo (.int 0)) 2), (2, oS (gKo (.int 0)) 3), (3, oCV 5 110 2), (6, oLA 0 7), (7, oCV 5 107 0), (10, oSI 1 3 11), (11, oLI 1 12)]
theorem B116_0_ok : ∀ q ∈ B116_0, Ok M116 q.1 q.2 := List.forall_mem_cons.mpr ⟨k_116_0, List.forall_mem_cons.mpr ⟨k_116_1, List.forall_mem_cons.mpr ⟨k_116_2, List.forall_mem_cons.mpr ⟨k_116_3, List.forall_mem_cons.mpr ⟨k_116_6, List.forall_mem_cons.mpr ⟨k_116_7, List.forall_mem_cons.mpr ⟨k_116_10, List.forall_mem_cons.mpr ⟨k_116_11, fun _ h => absurd h List.not_mem_nil⟩⟩⟩⟩⟩⟩⟩⟩
def B116_1 : List (Nat × aO) := [(12, oS (gKo (.int 37)) 14), (14, oB2 b_icmp_eq q_eq 59 17), (17, oLI 1 18), (18, oS (gKo (.int 61)) 20), (20, oB2 b_icmp_ne q_ne 43 23), (23, oLA 0 24), (24, oGe 5 0 27), (27, oS (gKo (.int 0)) 28)]
theorem B116_1_ok : ∀ q ∈ B116_1, Ok M116 q.1 q.2 := List.forall_mem_cons.mpr ⟨k_116_12, List.forall_mem_cons.mpr ⟨k_116_14, List.forall_mem_cons.mpr ⟨k_116_17, List.forall_mem_cons.mpr ⟨k_116_18, List.forall_mem_cons.mpr ⟨k_116_20, List.forall_mem_cons.mpr ⟨k_116_23, List.forall_mem_cons.mpr ⟨k_116_24, List.forall_mem_cons.mpr ⟨k_116_27, fun _ h => absurd h List.not_mem_nil⟩⟩⟩⟩⟩⟩⟩⟩
def B116_2 : List (Nat × aO) := [(28, oAI 29), (29, oS (gKo (.int 6)) 31), (31, oB2 b_icmp_ge q_ge 43 34), (34, oLA 0 35), (35, oGe 5 0 38), (38, oS (gKo (.int 1)) 39), (39, oAI 40), (40, oB1 b_if_eq q_eq 59 43)]
theorem B116_2_ok : ∀ q ∈ B116_2, Ok M116 q.1 q.2 := List.forall_mem_cons.mpr ⟨k_116_28, List.forall_mem_cons.mpr ⟨k_116_29, List.forall_mem_cons.mpr ⟨k_116_31, List.forall_mem_cons.mpr ⟨k_116_34, List.forall_mem_cons.mpr ⟨k_116_35, List.forall_mem_cons.mpr ⟨k_116_38, List.forall_mem_cons.mpr ⟨k_116_39, List.forall_mem_cons.mpr ⟨k_116_40, fun _ h => absurd h List.not_mem_nil⟩⟩⟩⟩⟩⟩⟩⟩
def B116_3 : List (Nat × aO) := [(43, oLI 1 44), (44, oS (gKo (.int 43)) 46), (46, oB2 b_icmp_ne q_ne 63 49), (49, oLA 0 50), (50, oGe 5 0 53), (53, oS (gKo (.int 1)) 54), (54, oAI 55), (55, oS (gKo (.int 4)) 56)]
theorem B116_3_ok : ∀ q ∈ B116_3, Ok M116 q.1 q.2 := List.forall_mem_cons.mpr ⟨k_116_43, List.forall_mem_cons.mpr ⟨k_116_44, List.forall_mem_cons.mpr ⟨k_116_46, List.forall_mem_cons.mpr ⟨k_116_49, List.forall_mem_cons.mpr ⟨k_116_50, List.forall_mem_cons.mpr ⟨k_116_53, List.forall_mem_cons.mpr ⟨k_116_54, List.forall_mem_cons.mpr ⟨k_116_55, fun _ h => absurd h List.not_mem_nil⟩⟩⟩⟩⟩⟩⟩⟩
def B116_4 : List (Nat × aO) := [(56, oB2 b_icmp_ge q_ge 63 59), (59, oS (gKo (.int 1)) 60), (60, oGo 64), (63, oS (gKo (.int 0)) 64), (64, oSI 2 3 65), (65, oLI 2 66), (66, oB1 b_if_ne q_ne 71 69), (69, oS (gKo (.int 0)) 70)]
theorem B116_4_ok : ∀ q ∈ B116_4, Ok M116 q.1 q.2 := List.forall_mem_cons.mpr ⟨k_116_56, List.forall_mem_cons.mpr ⟨k_116_59, List.forall_mem_cons.mpr ⟨k_116_60, List.forall_mem_cons.mpr ⟨k_116_63, List.forall_mem_cons.mpr ⟨k_116_64, List.forall_mem_cons.mpr ⟨k_116_65, List.forall_mem_cons.mpr ⟨k_116_66, List.forall_mem_cons.mpr ⟨k_116_69, fun _ h => absurd h List.not_mem_nil⟩⟩⟩⟩⟩⟩⟩⟩
def B116_5 : List (Nat × aO) := [(70, oRZ), (71, oLA 0 72), (72, oS gDu 73), (73, oGe 5 6 76), (76, oS (gKo (.int 1)) 77), (77, oS (gI2 f_iadd) 78), (78, oPI 5 6 81), (81, oLI 1 82)]
theorem B116_5_ok : ∀ q ∈ B116_5, Ok M116 q.1 q.2 := List.forall_mem_cons.mpr ⟨k_116_70, List.forall_mem_cons.mpr ⟨k_116_71, List.forall_mem_cons.mpr ⟨k_116_72, List.forall_mem_cons.mpr ⟨k_116_73, List.forall_mem_cons.mpr ⟨k_116_76, List.forall_mem_cons.mpr ⟨k_116_77, List.forall_mem_cons.mpr ⟨k_116_78, List.forall_mem_cons.mpr ⟨k_116_81, fun _ h => absurd h List.not_mem_nil⟩⟩⟩⟩⟩⟩⟩⟩
def B116_6 : List (Nat × aO) := [(82, oS (gKo (.int 37)) 84), (84, oB2 b_icmp_ne q_ne 94 87), (87, oLA 0 88), (88, oCV 5 115 0), (91, oGo 111), (94, oLI 1 95), (95, oS (gKo (.int 61)) 97), (97, oB2 b_icmp_ne q_ne 107 100)]
theorem B116_6_ok : ∀ q ∈ B116_6, Ok M116 q.1 q.2 := List.forall_mem_cons.mpr ⟨k_116_82, List.forall_mem_cons.mpr ⟨k_116_84, List.forall_mem_cons.mpr ⟨k_116_87, List.forall_mem_cons.mpr ⟨k_116_88, List.forall_mem_cons.mpr ⟨k_116_91, List.forall_mem_cons.mpr ⟨k_116_94, List.forall_mem_cons.mpr ⟨k_116_95, List.forall_mem_cons.mpr ⟨k_116_97, fun _ h => absurd h List.not_mem_nil⟩⟩⟩⟩⟩⟩⟩⟩
def B116_7 : List (Nat × aO) := [(100, oLA 0 101), (101, oCV 5 112 0), (104, oGo 111), (107, oLA 0 108), (108, oCV 5 114 0), (111, oRZ)]
theorem B116_7_ok : ∀ q ∈ B116_7, Ok M116 q.1 q.2 := List.forall_mem_cons.mpr ⟨k_116_100, List.forall_mem_cons.mpr ⟨k_116_101, List.forall_mem_cons.mpr ⟨k_116_104, List.forall_mem_cons.mpr ⟨k_116_107, List.forall_mem_cons.mpr ⟨k_116_108, List.forall_mem_cons.mpr ⟨k_116_111, fun _ h => absurd h List.not_mem_nil⟩⟩⟩⟩⟩⟩
def P116 : List (Nat × List (Nat × aO)) := [(11, B116_0), (27, B116_1), (40, B116_2), (55, B116_3), (69, B116_4), (81, B116_5), (97, B116_6), (111, B116_7)]
theorem P116_ok : ∀ b ∈ P116, ∀ q ∈ b.2, Ok M116 q.1 q.2 := List.forall_mem_cons.mpr ⟨B116_0_ok, List.forall_mem_cons.mpr ⟨B116_1_ok, List.forall_mem_cons.mpr ⟨B116_2_ok, List.forall_mem_cons.mpr ⟨B116_3_ok, List.forall_mem_cons.mpr ⟨B116_4_ok, List.forall_mem_cons.mpr ⟨B116_5_ok, List.forall_mem_cons.mpr ⟨B116_6_ok, List.forall_mem_cons.mpr ⟨B116_7_ok, fun _ h => absurd h List.not_mem_nil⟩⟩⟩⟩⟩⟩⟩⟩
theorem k_117_0 : Ok M117 0 (oS (gKo (.int 0)) 1) := r_iconst (n := 0) (by decide +kernel) (by decide +kernel)
theorem k_117_1 : Ok M117 1 (oSI 1 2 2) := r_istore_n (j := 1) (by decide +kernel) rfl
theorem k_117_2 : Ok M117 2 (oLI 1 3) := r_iload_n (j := 1) (by decide +kernel) rfl
theorem k_117_3 : Ok M117 3 (oS (gKo (.int 55)) 5) := r_bipush (n := 55) (by decide +kernel) (by decide +kernel)
theorem k_117_5 : Ok M117 5 (oB2 b_icmp_ge q_ge 21 8) := r_icmp_ge (off := 16) (by decide +kernel) (by decide +kernel)
theorem k_117_8 : Ok M117 8 (oLA 0 9) := r_aload_n (j := 0) (by decide +kernel) rfl
theorem k_117_9 : Ok M117 9 (oGe 5 0 12) := r_get (idx := 7) (by decide +kernel) cd_5 0 (by decide) w_678 rfl
theorem k_117_12 : Ok M117 12 (oLI 1 13) := r_iload_n (j := 1) (by decide +kernel) rfl
theorem k_117_13 : Ok M117 13 (oS (gKo (.int 0)) 14) := r_iconst (n := 0) (by decide +kernel) (by decide +kernel)
theorem k_117_14 : Ok M117 14 (oAT 15) := r_iastore (by decide +kernel)
theorem k_117_15 : Ok M117 15 (oInc 1 1 2 18) := r_iinc (n := 1) (by decide +kernel) (by decide +kernel)
theorem k_117_18 : Ok M117 18 (oGo 2) := r_goto (off := (-16)) (by decide +kernel) (by decide +kernel)
theorem k_117_21 : Ok M117 21 (oLA 0 22) := r_aload_n (j := 0) (by decide +kernel) rfl
theorem k_117_22 : Ok M117 22 (oS (gKo (.int 0)) 23) := r_iconst (n := 0) (by decide +kernel) (by decide +kernel)
theorem k_117_23 : Ok M117 23 (oPI 5 6 26) := r_putI (idx := 61) (by decide +kernel) cd_5 6 (by decide) w_684 rfl rfl (by decide +kernel)
theorem k_117_26 : Ok M117 26 (oLA 0 27) := r_aload_n (j := 0) (by decide +kernel) rfl
theorem k_117_27 : Ok M117 27 (oS (gKo (.int 0)) 28) := r_iconst (n := 0) (by decide +kernel) (by decide +kernel)
theorem k_117_28 : Ok M117 28 (oPI 5 7 31) := r_putI (idx := 120) (by decide +kernel) cd_5 7 (by decide) w_685 rfl rfl (by decide +kernel)
theorem k_117_31 : Ok M117 31 (oLA 0 32) := r_aload_n (j := 0) (by decide +kernel) rfl
theorem k_117_32 : Ok M117 32 (oS (gKo (.int 0)) 33) := r_iconst (n := 0) (by decide +kernel) (by decide +kernel)
theorem k_117_33 : Ok M117 33 (oPI 5 10 36) := r_putI (idx := 89) (by decide +kernel) cd_5 10 (by decide) w_688 rfl rfl (by decide +kernel)
theorem k_117_36 : Ok M117 36 (oLA 0 37) := r_aload_n (j := 0) (by decide +kernel) rfl
theorem k_117_37 : Ok M117 37 (oGe 5 6 40) := r_get (idx := 61) (by decide +kernel) cd_5 6 (by decide) w_684 rfl
theorem k_117_40 : Ok M117 40 (oLA 0 41) := r_aload_n (j := 0) (by decide +kernel) rfl
theorem k_117_41 : Ok M117 41 (oGe 5 4 44) := r_get (idx := 58) (by decide +kernel) cd_5 4 (by decide) w_682 rfl
theorem k_117_44 : Ok M117 44 (oB2 b_icmp_ge q_ge 69 47) := r_icmp_ge (off := 25) (by decide +kernel) (by decide +kernel)
theorem k_117_47 : Ok M117 47 (oLA 0 48) := r_aload_n (j := 0) (by decide +kernel) rfl
theorem k_117_48 : Ok M117 48 (oCV 5 116 0) := r_callV (idx := 123) (by decide +kernel) w_767 cv_116
theorem k_117_51 : Ok M117 51 (oB1 b_if_ne q_ne 56 54) := r_if_ne (off := 5) (by decide +kernel) (by decide +kernel)
theorem k_117_54 : Ok M117 54 (oS (gKo (.int 0)) 55) := r_iconst (n := 0) (by decide +kernel) (by decide +kernel)
theorem k_117_55 : Ok M117 55 (oRZ) := r_zreturn rfl (by decide +kernel)
theorem k_117_56 : Ok M117 56 (oLA 0 57) := r_aload_n (j := 0) (by decide +kernel) rfl
theorem k_117_57 : Ok M117 57 (oS gDu 58) := r_dup (by decide +kernel)
theorem k_117_58 : Ok M117 58 (oGe 5 7 61) := r_get (idx := 120) (by decide +kernel) cd_5 7 (by decide) w_685 rfl
theorem k_117_61 : Ok M117 61 (oS (gKo (.int 1)) 62) := r_iconst (n := 1) (by decide +kernel) (by decide +kernel)
theorem k_117_62 : Ok M117 62 (oS (gI2 f_iadd) 63) := r_iadd (by decide +kernel)
theorem k_117_63 : Ok M117 63 (oPI 5 7 66) := r_putI (idx := 120) (by decide +kernel) cd_5 7 (by decide) w_685 rfl rfl (by decide +kernel)
theorem k_117_66 : Ok M117 66 (oGo 36) := r_goto (off := (-30)) (by decide +kernel) (by decide +kernel)
theorem k_117_69 : Ok M117 69 (oLA 0 70) := r_aload_n (j := 0) (by decide +kernel) rfl
theorem k_117_70 : Ok M117 70 (oCV 5 118 0) := r_callV (idx := 126) (by decide +kernel) w_815 cv_118
theorem k_117_73 : Ok M117 73 (oS (gKo (.int 1)) 74) := r_iconst (n := 1) (by decide +kernel) (by decide +kernel)
theorem k_117_74 : Ok M117 74 (oRZ) := r_zreturn rfl (by decide +kernel)
def B117_0 : List (Nat × aO) := [(0, oS (gKo (.int 0)) 1), (1, oSI 1 2 2), (2, oLI 1 3), (3, oS (gKo (.int 55)) 5), (5, oB2 b_icmp_ge q_ge 21 8), (8, oLA 0 9), (9, oGe 5 0 12), (12, oLI 1 13)]
theorem B117_0_ok : ∀ q ∈ B117_0, Ok M117 q.1 q.2 := List.forall_mem_cons.mpr ⟨k_117_0, List.forall_mem_cons.mpr ⟨k_117_1, List.forall_mem_cons.mpr ⟨k_117_2, List.forall_mem_cons.mpr ⟨k_117_3, List.forall_mem_cons.mpr ⟨k_117_5, List.forall_mem_cons.mpr ⟨k_117_8, List.forall_mem_cons.mpr ⟨k_117_9, List.forall_mem_cons.mpr ⟨k_117_12, fun _ h => absurd h List.not_mem_nil⟩⟩⟩⟩⟩⟩⟩⟩
def B117_1 : List (Nat × aO) := [(13, oS (gKo (.int 0)) 14), (14, oAT 15), (15, oInc 1 1 2 18), (18, oGo 2), (21, oLA 0 22), (22, oS (gKo (.int 0)) 23), (23, oPI 5 6 26), (26, oLA 0 27)]
theorem B117_1_ok : ∀ q ∈ B117_1, Ok M117 q.1 q.2 := List.forall_mem_cons.mpr ⟨k_117_13, List.forall_mem_cons.mpr ⟨k_117_14, List.forall_mem_cons.mpr ⟨k_117_15, List.forall_mem_cons.mpr ⟨k_117_18, List.forall_mem_cons.mpr ⟨k_117_21, List.forall_mem_cons.mpr ⟨k_117_22, List.forall_mem_cons.mpr ⟨k_117_23, List.forall_mem_cons.mpr ⟨k_117_26, fun _ h => absurd h List.not_mem_nil⟩⟩⟩⟩⟩⟩⟩⟩
def B117_2 : List (Nat × aO) := [(27, oS (gKo (.int 0)) 28), (28, oPI 5 7 31), (31, oLA 0 32), (32, oS (gKo (.int 0)) 33), (33, oPI 5 10 36), (36, oLA 0 37), (37, oGe 5 6 40), (40, oLA 0 41)]
theorem B117_2_ok : ∀ q ∈ B117_2, Ok M117 q.1 q.2 := List.forall_mem_cons.mpr ⟨k_117_27, List.forall_mem_cons.mpr ⟨k_117_28, List.forall_mem_cons.mpr ⟨k_117_31, List.forall_mem_cons.mpr ⟨k_117_32, List.forall_mem_cons.mpr ⟨k_117_33, List.forall_mem_cons.mpr ⟨k_117_36, List.forall_mem_cons.mpr ⟨k_117_37, List.forall_mem_cons.mpr ⟨k_117_40, fun _ h => absurd h List.not_mem_nil⟩⟩⟩⟩⟩⟩⟩⟩
def B117_3 : List (Nat × aO) := [(41, oGe 5 4 44), (44, oB2 b_icmp_ge q_ge 69 47), (47, oLA 0 48), (48, oCV 5 116 0), (51, oB1 b_if_ne q_ne 56 54), (54, oS (gKo (.int 0)) 55), (55, oRZ), (56, oLA 0 57)]
theorem B117_3_ok : ∀ q ∈ B117_3, Ok M117 q.1 q.2 := List.forall_mem_cons.mpr ⟨k_117_41, List.forall_mem_cons.mpr ⟨k_117_44, List.forall_mem_cons.mpr ⟨k_117_47, List.forall_mem_cons.mpr ⟨k_117_48, List.forall_mem_cons.mpr ⟨k_117_51, List.forall_mem_cons.mpr ⟨k_117_54, List.forall_mem_cons.mpr ⟨k_117_55, List.forall_mem_cons.mpr ⟨k_117_56, fun _ h => absurd h List.not_mem_nil⟩⟩⟩⟩⟩⟩⟩⟩
def B117_4 : List (Nat × aO) := [(57, oS gDu 58), (58, oGe 5 7 61), (61, oS (gKo (.int 1)) 62), (62, oS (gI2 f_iadd) 63), (63, oPI 5 7 66), (66, oGo 36), (69, oLA 0 70), (70, oCV 5 118 0)]
theorem B117_4_ok : ∀ q ∈ B117_4, Ok M117 q.1 q.2 := List.forall_mem_cons.mpr ⟨k_117_57, List.forall_mem_cons.mpr ⟨k_117_58, List.forall_mem_cons.mpr ⟨k_117_61, List.forall_mem_cons.mpr ⟨k_117_62, List.forall_mem_cons.mpr ⟨k_117_63, List.forall_mem_cons.mpr ⟨k_117_66, List.forall_mem_cons.mpr ⟨k_117_69, List.forall_mem_cons.mpr ⟨k_117_70, fun _ h => absurd h List.not_mem_nil⟩⟩⟩⟩⟩⟩⟩⟩
def B117_5 : List (Nat × aO) := [(73, oS (gKo (.int 1)) 74), (74, oRZ)]
theorem B117_5_ok : ∀ q ∈ B117_5, Ok M117 q.1 q.2 := List.forall_mem_cons.mpr ⟨k_117_73, List.forall_mem_cons.mpr ⟨k_117_74, fun _ h => absurd h List.not_mem_nil⟩⟩
def P117 : List (Nat × List (Nat × aO)) := [(12, B117_0), (26, B117_1), (40, B117_2), (56, B117_3), (70, B117_4), (74, B117_5)]
theorem P117_ok : ∀ b ∈ P117, ∀ q ∈ b.2, Ok M117 q.1 q.2 := List.forall_mem_cons.mpr ⟨B117_0_ok, List.forall_mem_cons.mpr ⟨B117_1_ok, List.forall_mem_cons.mpr ⟨B117_2_ok, List.forall_mem_cons.mpr ⟨B117_3_ok, List.forall_mem_cons.mpr ⟨B117_4_ok, List.forall_mem_cons.mpr ⟨B117_5_ok, fun _ h => absurd h List.not_mem_nil⟩⟩⟩⟩⟩⟩
theorem k_118_0 : Ok M118 0 (oLA 0 1) := r_aload_n (j := 0) (by decide +kernel) rfl
theorem k_118_1 : Ok M118 1 (oGe 5 0 4) := r_get (idx := 7) (by decide +kernel) cd_5 0 (by decide) w_678 rfl
theorem k_118_4 : Ok M118 4 (oS (gKo (.int 3)) 5) := r_iconst (n := 3) (by decide +kernel) (by decide +kernel)
theorem k_118_5 : Ok M118 5 (oS (gKo (.int 0)) 6) := r_iconst (n := 0) (by decide +kernel) (by decide +kernel)
theorem k_118_6 : Ok M118 6 (oAT 7) := r_iastore (by decide +kernel)
theorem k_118_7 : Ok M118 7 (oLA 0 8) := r_aload_n (j := 0) (by decide +kernel) rfl
theorem k_118_8 : Ok M118 8 (oGe 5 0 11) := r_get (idx := 7) (by decide +kernel) cd_5 0 (by decide) w_678 rfl
theorem k_118_11 : Ok M118 11 (oS (gKo (.int 4)) 12) := r_iconst (n := 4) (by decide +kernel) (by decide +kernel)
theorem k_118_12 : Ok M118 12 (oS (gKo (.int 0)) 13) := r_iconst (n := 0) (by decide +kernel) (by decide +kernel)
theorem k_118_13 : Ok M118 13 (oAT 14) := r_iastore (by decide +kernel)
theorem k_118_14 : Ok M118 14 (oLA 0 15) := r_aload_n (j := 0) (by decide +kernel) rfl
theorem k_118_15 : Ok M118 15 (oGe 5 0 18) := r_get (idx := 7) (by decide +kernel) cd_5 0 (by decide) w_678 rfl
theorem k_118_18 : Ok M118 18 (oS (gKo (.int 5)) 19) := r_iconst (n := 5) (by decide +kernel) (by decide +kernel)
theorem k_118_19 : Ok M118 19 (oS (gKo (.int (-1))) 20) := r_iconst (n := (-1)) (by decide +kernel) (by decide +kernel)
theorem k_118_20 : Ok M118 20 (oAT 21) := r_iastore (by decide +kernel)
theorem k_118_21 : Ok M118 21 (oLA 0 22) := r_aload_n (j := 0) (by decide +kernel) rfl
theorem k_118_22 : Ok M118 22 (oGe 5 0 25) := r_get (idx := 7) (by decide +kernel) cd_5 0 (by decide) w_678 rfl
theorem k_118_25 : Ok M118 25 (oS (gKo (.int 6)) 27) := r_bipush (n := 6) (by decide +kernel) (by decide +kernel)
theorem k_118_27 : Ok M118 27 (oS (gKo (.int 0)) 28) := r_iconst (n := 0) (by decide +kernel) (by decide +kernel)
theorem k_118_28 : Ok M118 28 (oAT 29) := r_iastore (by decide +kernel)
theorem k_118_29 : Ok M118 29 (oLA 0 30) := r_aload_n (j := 0) (by decide +kernel) rfl
theorem k_118_30 : Ok M118 30 (oGe 5 0 33) := r_get (idx := 7) (by decide +kernel) cd_5 0 (by decide) w_678 rfl
theorem k_118_33 : Ok M118 33 (oS (gKo (.int 8)) 35) := r_bipush (n := 8) (by decide +kernel) (by decide +kernel)
theorem k_118_35 : Ok M118 35 (oLA 0 36) := r_aload_n (j := 0) (by decide +kernel) rfl
theorem k_118_36 : Ok M118 36 (oGe 5 0 39) := r_get (idx := 7) (by decide +kernel) cd_5 0 (by decide) w_678 rfl
theorem k_118_39 : Ok M118 39 (oS (gKo (.int 7)) 41) := r_bipush (n := 7) (by decide +kernel) (by decide +kernel)
theorem k_118_41 : Ok M118 41 (oAI 42) := r_iaload (by decide +kernel)
theorem k_118_42 : Ok M118 42 (oAT 43) := r_iastore (by decide +kernel)
theorem k_118_43 : Ok M118 43 (oS (gKo (.int 0)) 44) := r_iconst (n := 0) (by decide +kernel) (by decide +kernel)
theorem k_118_44 : Ok M118 44 (oSI 1 2 45) := r_istore_n (j := 1) (by decide +kernel) rfl
theorem k_118_45 : Ok M118 45 (oLI 1 46) := r_iload_n (j := 1) (by decide +kernel) rfl
theorem k_118_46 : Ok M118 46 (oS (gKo (.int 6)) 48) := r_bipush (n := 6) (by decide +kernel) (by decide +kernel)
theorem k_118_48 : Ok M118 48 (oB2 b_icmp_ge q_ge 77 51) := r_icmp_ge (off := 29) (by decide +kernel) (by decide +kernel)
theorem k_118_51 : Ok M118 51 (oLA 0 52) := r_aload_n (j := 0) (by decide +kernel) rfl
theorem k_118_52 : Ok M118 52 (oGe 5 0 55) := r_get (idx := 7) (by decide +kernel) cd_5 0 (by decide) w_678 rfl
theorem k_118_55 : Ok M118 55 (oS (gKo (.int 15)) 57) := r_bipush (n := 15) (by decide +kernel) (by decide +kernel)
theorem k_118_57 : Ok M118 57 (oLI 1 58) := r_iload_n (j := 1) (by decide +kernel) rfl
theorem k_118_58 : Ok M118 58 (oS (gI2 f_iadd) 59) := r_iadd (by decide +kernel)
theorem k_118_59 : Ok M118 59 (oS (gKo (.int (-1))) 60) := r_iconst (n := (-1)) (by decide +kernel) (by decide +kernel)
theorem k_118_60 : Ok M118 60 (oAT 61) := r_iastore (by decide +kernel)
theorem k_118_61 : Ok M118 61 (oLA 0 62) := r_aload_n (j := 0) (by decide +kernel) rfl
theorem k_118_62 : Ok M118 62 (oGe 5 0 65) := r_get (idx := 7) (by decide +kernel) cd_5 0 (by decide) w_678 rfl
theorem k_118_65 : Ok M118 65 (oS (gKo (.int 21)) 67) := r_bipush (n := 21) (by decide +kernel) (by decide +kernel)
theorem k_118_67 : Ok M118 67 (oLI 1 68) := r_iload_n (j := 1) (by decide +kernel) rfl
theorem k_118_68 : Ok M118 68 (oS (gI2 f_iadd) 69) := r_iadd (by decide +kernel)
theorem k_118_69 : Ok M118 69 (oS (gKo (.int (-1))) 70) := r_iconst (n := (-1)) (by decide +kernel) (by decide +kernel)
theorem k_118_70 : Ok M118 70 (oAT 71) := r_iastore (by decide +kernel)
theorem k_118_71 : Ok M118 71 (oInc 1 1 2 74) := r_iinc (n := 1) (by decide +kernel) (by decide +kernel)
theorem k_118_74 : Ok M118 74 (oGo 45) := r_goto (off := (-29)) (by decide +kernel) (by decide +kernel)
theorem k_118_77 : Ok M118 77 (oRV) := r_return rfl (by decide +kernel)
def B118_0 : List (Nat × aO) := [(0, oLA 0 1), (1, oGe 5 0 4), (4, oS (gKo (.int 3)) 5), (5, oS (gKo (.int 0)) 6), (6, oAT 7), (7, oLA 0 8), (8, oGe 5 0 11), (11, oS (gKo (.int 4)) 12)]
theorem B118_0_ok : ∀ q ∈ B118_0, Ok M118 q.1 q.2 := List.forall_mem_cons.mpr ⟨k_118_0, List.forall_mem_cons.mpr ⟨k_118_1, List.forall_mem_cons.mpr ⟨k_118_4, List.forall_mem_cons.mpr ⟨k_118_5, List.forall_mem_cons.mpr ⟨k_118_6, List.forall_mem_cons.mpr ⟨k_118_7, List.forall_mem_cons.mpr ⟨k_118_8, List.forall_mem_cons.mpr ⟨k_118_11, fun _ h => absurd h List.not_mem_nil⟩⟩⟩⟩⟩⟩⟩⟩
def B118_1 : List (Nat × aO) := [(12, oS (gKo (.int 0)) 13), (13, oAT 14), (14, oLA 0 15), (15, oGe 5 0 18), (18, oS (gKo (.int 5)) 19), (19, oS (gKo (.int (-1))) 20), (20, oAT 21), (21, oLA 0 22)]
theorem B118_1_ok : ∀ q ∈ B118_1, Ok M118 q.1 q.2 := List.forall_mem_cons.mpr ⟨k_118_12, List.forall_mem_cons.mpr ⟨k_118_13, List.forall_mem_cons.mpr ⟨k_118_14, List.forall_mem_cons.mpr ⟨k_118_15, List.forall_mem_cons.mpr ⟨k_118_18, List.forall_mem_cons.mpr ⟨k_118_19, List.forall_mem_cons.mpr ⟨k_118_20, List.forall_mem_cons.mpr ⟨k_118_21, fun _ h => absurd h List.not_mem_nil⟩⟩⟩⟩⟩⟩⟩⟩
def B118_2 : List (Nat × aO) := [(22, oGe 5 0 25), (25, oS (gKo (.int 6)) 27), (27, oS (gKo (.int 0)) 28), (28, oAT 29), (29, oLA 0 30), (30, oGe 5 0 33), (33, oS (gKo (.int 8)) 35), (35, oLA 0 36)]
theorem B118_2_ok : ∀ q ∈ B118_2, Ok M118 q.1 q.2 := List.forall_mem_cons.mpr ⟨k_118_22, List.forall_mem_cons.mpr ⟨k_118_25, List.forall_mem_cons.mpr ⟨k_118_27, List.forall_mem_cons.mpr ⟨k_118_28, List.forall_mem_cons.mpr ⟨k_118_29, List.forall_mem_cons.mpr ⟨k_118_30, List.forall_mem_cons.mpr ⟨k_118_33, List.forall_mem_cons.mpr ⟨k_118_35, fun _ h => absurd h List.not_mem_nil⟩⟩⟩⟩⟩⟩⟩⟩
def B118_3 : List (Nat × aO) := [(36, oGe 5 0 39), (39, oS (gKo (.int 7)) 41), (41, oAI 42), (42, oAT 43), (43, oS (gKo (.int 0)) 44), (44, oSI 1 2 45), (45, oLI 1 46), (46, oS (gKo (.int 6)) 48)]
theorem B118_3_ok : ∀ q ∈ B118_3, Ok M118 q.1 q.2 := List.forall_mem_cons.mpr ⟨k_118_36, List.forall_mem_cons.mpr ⟨k_118_39, List.forall_mem_cons.mpr ⟨k_118_41, List.forall_mem_cons.mpr ⟨k_118_42, List.forall_mem_cons.mpr ⟨k_118_43, List.forall_mem_cons.mpr ⟨k_118_44, List.forall_mem_cons.mpr ⟨k_118_45, List.forall_mem_cons.mpr ⟨k_118_46, fun _ h => absurd h List.not_mem_nil⟩⟩⟩⟩⟩⟩⟩⟩
def B118_4 : List (Nat × aO) := [(48, oB2 b_icmp_ge q_ge 77 51), (51, oLA 0 52), (52, oGe 5 0 55), (55, oS (gKo (.int 15)) 57), (57, oLI 1 58), (58, oS (gI2 f_iadd) 59), (59, oS (gKo (.int (-1))) 60), (60, oAT 61)]
theorem B118_4_ok : ∀ q ∈ B118_4, Ok M118 q.1 q.2 := List.forall_mem_cons.mpr ⟨k_118_48, List.forall_mem_cons.mpr ⟨k_118_51, List.forall_mem_cons.mpr ⟨k_118_52, List.forall_mem_cons.mpr ⟨k_118_55, List.forall_mem_cons.mpr ⟨k_118_57, List.forall_mem_cons.mpr ⟨k_118_58, List.forall_mem_cons.mpr ⟨k_118_59, List.forall_mem_cons.mpr ⟨k_118_60, fun _ h => absurd h List.not_mem_nil⟩⟩⟩⟩⟩⟩⟩⟩
def B118_5 : List (Nat × aO) := [(61, oLA 0 62), (62, oGe 5 0 65), (65, oS (gKo (.int 21)) 67), (67, oLI 1 68), (68, oS (gI2 f_iadd) 69), (69, oS (gKo (.int (-1))) 70), (70, oAT 71), (71, oInc 1 1 2 74)]
theorem B118_5_ok : ∀ q ∈ B118_5, Ok M118 q.1 q.2 := List.forall_mem_cons.mpr ⟨k_118_61, List.forall_mem_cons.mpr ⟨k_118_62, List.forall_mem_cons.mpr ⟨k_118_65, List.forall_mem_cons.mpr ⟨k_118_67, List.forall_mem_cons.mpr ⟨k_118_68, List.forall_mem_cons.mpr ⟨k_118_69, List.forall_mem_cons.mpr ⟨k_118_70, List.forall_mem_cons.mpr ⟨k_118_71, fun _ h => absurd h List.not_mem_nil⟩⟩⟩⟩⟩⟩⟩⟩
def B118_6 : List (Nat × aO) := [(74, oGo 45), (77, oRV)]
theorem B118_6_ok : ∀ q ∈ B118_6, Ok M118 q.1 q.2 := List.forall_mem_cons.mpr ⟨k_118_74, List.forall_mem_cons.mpr ⟨k_118_77, fun _ h => absurd h List.not_mem_nil⟩⟩
def P118 : List (Nat × List (Nat × aO)) := [(11, B118_0), (21, B118_1), (35, B118_2), (46, B118_3), (60, B118_4), (71, B118_5), (77, B118_6)]
theorem P118_ok : ∀ b ∈ P118, ∀ q ∈ b.2, Ok M118 q.1 q.2 := List.forall_mem_cons.mpr ⟨B118_0_ok, List.forall_mem_cons.mpr ⟨B118_1_ok, List.forall_mem_cons.mpr ⟨B118_2_ok, List.forall_mem_cons.mpr ⟨B118_3_ok, List.forall_mem_cons.mpr ⟨B118_4_ok, List.forall_mem_cons.mpr ⟨B118_5_ok, List.forall_mem_cons.mpr ⟨B118_6_ok, fun _ h => absurd h List.not_mem_nil⟩⟩⟩⟩⟩⟩⟩
theorem k_119_0 : Ok M119 0 (oLA 0 1) := r_aload_n (j := 0) (by decide +kernel) rfl
theorem k_119_1 : Ok M119 1 (oS (gKo (.int 0)) 2) := r_iconst (n := 0) (by decide +kernel) (by decide +kernel)
theorem k_119_2 : Ok M119 2 (oS (gKo (.int 385)) 5) := r_sipush (n := 385) (by decide +kernel) (by decide +kernel)
theorem k_119_5 : Ok M119 5 (oCV 5 100 2) := r_callV (idx := 44) (by decide +kernel) w_759 cv_100
theorem k_119_8 : Ok M119 8 (oLA 0 9) := r_aload_n (j := 0) (by decide +kernel) rfl
theorem k_119_9 : Ok M119 9 (oCV 5 117 0) := r_callV (idx := 129) (by decide +kernel) w_763 cv_117
theorem k_119_12 : Ok M119 12 (oSI 1 2 13) := r_istore_n (j := 1) (by decide +kernel) rfl
theorem k_119_13 : Ok M119 13 (oLI 1 14) := r_iload_n (j := 1) (by decide +kernel) rfl
theorem k_119_14 : Ok M119 14 (oB1 b_if_ne q_ne 73 17) := r_if_ne (off := 59) (by decide +kernel) (by decide +kernel)
theorem k_119_17 : Ok M119 17 (oLA 0 18) := r_aload_n (j := 0) (by decide +kernel) rfl
theorem k_119_18 : Ok M119 18 (oS (gKo (.int 385)) 21) := r_sipush (n := 385) (by decide +kernel) (by decide +kernel)
theorem k_119_21 : Ok M119 21 (oS (gKo (.int 0)) 22) := r_iconst (n := 0) (by decide +kernel) (by decide +kernel)
theorem k_119_22 : Ok M119 22 (oCV 5 100 2) := r_callV (idx := 44) (by decide +kernel) w_759 cv_100
theorem k_119_25 : Ok M119 25 (oLA 0 26) := r_aload_n (j := 0) (by decide +kernel) rfl
theorem k_119_26 : Ok M119 26 (oGe 5 5 29) := r_get (idx := 19) (by decide +kernel) cd_5 5 (by decide) w_683 rfl
theorem k_119_29 : Ok M119 29 (oS (gKo (.int 0)) 30) := r_iconst (n := 0) (by decide +kernel) (by decide +kernel)
theorem k_119_30 : Ok M119 30 (oLA 0 31) := r_aload_n (j := 0) (by decide +kernel) rfl
theorem k_119_31 : Ok M119 31 (oGe 5 7 34) := r_get (idx := 120) (by decide +kernel) cd_5 7 (by decide) w_685 rfl
theorem k_119_34 : Ok M119 34 (oAT 35) := r_iastore (by decide +kernel)
theorem k_119_35 : Ok M119 35 (oLA 0 36) := r_aload_n (j := 0) (by decide +kernel) rfl
theorem k_119_36 : Ok M119 36 (oGe 5 5 39) := r_get (idx := 19) (by decide +kernel) cd_5 5 (by decide) w_683 rfl
theorem k_119_39 : Ok M119 39 (oS (gKo (.int 1)) 40) := r_iconst (n := 1) (by decide +kernel) (by decide +kernel)
theorem k_119_40 : Ok M119 40 (oLA 0 41) := r_aload_n (j := 0) (by decide +kernel) rfl
theorem k_119_41 : Ok M119 41 (oGe 5 8 44) := r_get (idx := 72) (by decide +kernel) cd_5 8 (by decide) w_686 rfl
theorem k_119_44 : Ok M119 44 (oAT 45) := r_iastore (by decide +kernel)
theorem k_119_45 : Ok M119 45 (oLA 0 46) := r_aload_n (j := 0) (by decide +kernel) rfl
theorem k_119_46 : Ok M119 46 (oGe 5 5 49) := r_get (idx := 19) (by decide +kernel) cd_5 5 (by decide) w_683 rfl
theorem k_119_49 : Ok M119 49 (oS (gKo (.int 2)) 50) := r_iconst (n := 2) (by decide +kernel) (by decide +kernel)
theorem k_119_50 : Ok M119 50 (oLA 0 51) := r_aload_n (j := 0) (by decide +kernel) rfl
theorem k_119_51 : Ok M119 51 (oGe 5 9 54) := r_get (idx := 75) (by decide +kernel) cd_5 9 (by decide) w_687 rfl
theorem k_119_54 : Ok M119 54 (oAT 55) := r_iastore (by decide +kernel)
theorem k_119_55 : Ok M119 55 (oLA 0 56) := r_aload_n (j := 0) (by decide +kernel) rfl
theorem k_119_56 : Ok M119 56 (oGe 5 5 59) := r_get (idx := 19) (by decide +kernel) cd_5 5 (by decide) w_683 rfl
theorem k_119_59 : Ok M119 59 (oS (gKo (.int 3)) 60) := r_iconst (n := 3) (by decide +kernel) (by decide +kernel)
theorem k_119_60 : Ok M119 60 (oLA 0 61) := r_aload_n (j := 0) (by decide +kernel) rfl
theorem k_119_61 : Ok M119 61 (oCV 5 107 0) := r_callV (idx := 64) (by decide +kernel) w_775 cv_107
theorem k_119_64 : Ok M119 64 (oAT 65) := r_iastore (by decide +kernel)
theorem k_119_65 : Ok M119 65 (oS (gKo (.int (-10))) 67) := r_bipush (n := (-10)) (by decide +kernel) (by decide +kernel)
theorem k_119_67 : Ok M119 67 (oLA 0 68) := r_aload_n (j := 0) (by decide +kernel) rfl
theorem k_119_68 : Ok M119 68 (oGe 5 6 71) := r_get (idx := 61) (by decide +kernel) cd_5 6 (by decide) w_684 rfl
theorem k_119_71 : Ok M119 71 (oS (gI2 f_isub) 72) := r_isub (by decide +kernel)
theorem k_119_72 : Ok M119 72 (oRI) := r_ireturn rfl (by decide +kernel)
theorem k_119_73 : Ok M119 73 (oLA 0 74) := r_aload_n (j := 0) (by decide +kernel) rfl
theorem k_119_74 : Ok M119 74 (oCV 5 120 0) := r_callV (idx := 132) (by decide +kernel) w_819 cv_120
theorem k_119_77 : Ok M119 77 (oLA 0 78) := r_aload_n (j := 0) (by decide +kernel) rfl
theorem k_119_78 : Ok M119 78 (oGe 5 7 81) := r_get (idx := 120) (by decide +kernel) cd_5 7 (by decide) w_685 rfl
theorem k_119_81 : Ok M119 81 (oRI) := r_ireturn rfl (by decide +kernel)
def B119_0 : List (Nat × aO) := [(0, oLA 0 1), (1, oS (gKo (.int 0)) 2), (2, oS (gKo (.int 385)) 5), (5, oCV 5 100 2), (8, oLA 0 9), (9, oCV 5 117 0), (12, oSI 1 2 13), (13, oLI 1 14)]
theorem B119_0_ok : ∀ q ∈ B119_0, Ok M119 q.1 q.2 := List.forall_mem_cons.mpr ⟨k_119_0, List.forall_mem_cons.mpr ⟨k_119_1, List.forall_mem_cons.mpr ⟨k_119_2, List.forall_mem_cons.mpr ⟨k_119_5, List.forall_mem_cons.mpr ⟨k_119_8, List.forall_mem_cons.mpr ⟨k_119_9, List.forall_mem_cons.mpr ⟨k_119_12, List.forall_mem_cons.mpr ⟨k_119_13, fun _ h => absurd h List.not_mem_nil⟩⟩⟩⟩⟩⟩⟩⟩
def B119_1 : List (Nat × aO) := [(14, oB1 b_if_ne q_ne 73 17), (17, oLA 0 18), (18, oS (gKo (.int 385)) 21), (21, oS (gKo (.int 0)) 22), (22, oCV 5 100 2), (25, oLA 0 26), (26, oGe 5 5 29), (29, oS (gKo (.int 0)) 30)]
theorem B119_1_ok : ∀ q ∈ B119_1, Ok M119 q.1 q.2 := List.forall_mem_cons.mpr ⟨k_119_14, List.forall_mem_cons.mpr ⟨k_119_17, List.forall_mem_cons.mpr ⟨k_119_18, List.forall_mem_cons.mpr ⟨k_119_21, List.forall_mem_cons.mpr ⟨k_119_22, List.forall_mem_cons.mpr ⟨k_119_25, List.forall_mem_cons.mpr ⟨k_119_26, List.forall_mem_cons.mpr ⟨k_119_29, fun _ h => absurd h List.not_mem_nil⟩⟩⟩⟩⟩⟩⟩⟩
def B119_2 : List (Nat × aO) := [(30, oLA 0 31), (31, oGe 5 7 34), (34, oAT 35), (35, oLA 0 36), (36, oGe 5 5 39), (39, oS (gKo (.int 1)) 40), (40, oLA 0 41), (41, oGe 5 8 44)]
theorem B119_2_ok : ∀ q ∈ B119_2, Ok M119 q.1 q.2 := List.forall_mem_cons.mpr ⟨k_119_30, List.forall_mem_cons.mpr ⟨k_119_31, List.forall_mem_cons.mpr ⟨k_119_34, List.forall_mem_cons.mpr ⟨k_119_35, List.forall_mem_cons.mpr ⟨k_119_36, List.forall_mem_cons.mpr ⟨k_119_39, List.forall_mem_cons.mpr ⟨k_119_40, List.forall_mem_cons.mpr ⟨k_119_41, fun _ h => absurd h List.not_mem_nil⟩⟩⟩⟩⟩⟩⟩⟩
def B119_3 : List (Nat × aO) := [(44, oAT 45), (45, oLA 0 46), (46, oGe 5 5 49), (49, oS (gKo (.int 2)) 50), (50, oLA 0 51), (51, oGe 5 9 54), (54, oAT 55), (55, oLA 0 56)]
theorem B119_3_ok : ∀ q ∈ B119_3, Ok M119 q.1 q.2 := List.forall_mem_cons.mpr ⟨k_119_44, List.forall_mem_cons.mpr ⟨k_119_45, List.forall_mem_cons.mpr ⟨k_119_46, List.forall_mem_cons.mpr ⟨k_119_49, List.forall_mem_cons.mpr ⟨k_119_50, List.forall_mem_cons.mpr ⟨k_119_51, List.forall_mem_cons.mpr ⟨k_119_54, List.forall_mem_cons.mpr ⟨k_119_55, fun _ h => absurd h List.not_mem_nil⟩⟩⟩⟩⟩⟩⟩⟩
def B119_4 : List (Nat × aO) := [(56, oGe 5 5 59), (59, oS (gKo (.int 3)) 60), (60, oLA 0 61), (61, oCV 5 107 0), (64, oAT 65), (65, oS (gKo (.int (-10))) 67), (67, oLA 0 68), (68, oGe 5 6 71)]
theorem B119_4_ok : ∀ q ∈ B119_4, Ok M119 q.1 q.2 := List.forall_mem_cons.mpr ⟨k_119_56, List.forall_mem_cons.mpr ⟨k_119_59, List.forall_mem_cons.mpr ⟨k_119_60, List.forall_mem_cons.mpr ⟨k_119_61, List.forall_mem_cons.mpr ⟨k_119_64, List.forall_mem_cons.mpr ⟨k_119_65, List.forall_mem_cons.mpr ⟨k_119_67, List.forall_mem_cons.mpr ⟨k_119_68, fun _ h => absurd h List.not_mem_nil⟩⟩⟩⟩⟩⟩⟩⟩
def B119_5 : List (Nat × aO) := [(71, oS (gI2 f_isub) 72), (72, oRI), (73, oLA 0 74), (74, oCV 5 120 0), (77, oLA 0 78), (78, oGe 5 7 81), (81, oRI)]
theorem B119_5_ok : ∀ q ∈ B119_5, Ok M119 q.1 q.2 := List.forall_mem_cons.mpr ⟨k_119_71, List.forall_mem_cons.mpr ⟨k_119_72, List.forall_mem_cons.mpr ⟨k_119_73, List.forall_mem_cons.mpr ⟨k_119_74, List.forall_mem_cons.mpr ⟨k_119_77, List.forall_mem_cons.mpr ⟨k_119_78, List.forall_mem_cons.mpr ⟨k_119_81, fun _ h => absurd h List.not_mem_nil⟩⟩⟩⟩⟩⟩⟩
def P119 : List (Nat × List (Nat × aO)) := [(13, B119_0), (29, B119_1), (41, B119_2), (55, B119_3), (68, B119_4), (81, B119_5)]
theorem P119_ok : ∀ b ∈ P119, ∀ q ∈ b.2, Ok M119 q.1 q.2 := List.forall_mem_cons.mpr ⟨B119_0_ok, List.forall_mem_cons.mpr ⟨B119_1_ok, List.forall_mem_cons.mpr ⟨B119_2_ok, List.forall_mem_cons.mpr ⟨B119_3_ok, List.forall_mem_cons.mpr ⟨B119_4_ok, List.forall_mem_cons.mpr ⟨B119_5_ok, fun _ h => absurd h List.not_mem_nil⟩⟩⟩⟩⟩⟩
theorem k_120_0 : Ok M120 0 (oS (gKo (.int 0)) 1) := r_iconst (n := 0) (by decide +kernel) (by decide +kernel)
theorem k_120_1 : Ok M120 1 (oSI 1 3 2) := r_istore_n (j := 1) (by decide +kernel) rfl
theorem k_120_2 : Ok M120 2 (oLI 1 3) := r_iload_n (j := 1) (by decide +kernel) rfl
theorem k_120_3 : Ok M120 3 (oS (gKo (.int 55)) 5) := r_bipush (n := 55) (by decide +kernel) (by decide +kernel)
theorem k_120_5 : Ok M120 5 (oB2 b_icmp_ge q_ge 48 8) := r_icmp_ge (off := 43) (by decide +kernel) (by decide +kernel)
theorem k_120_8 : Ok M120 8 (oLA 0 9) := r_aload_n (j := 0) (by decide +kernel) rfl
theorem k_120_9 : Ok M120 9 (oGe 5 0 12) := r_get (idx := 7) (by decide +kernel) cd_5 0 (by decide) w_678 rfl
theorem k_120_12 : Ok M120 12 (oLI 1 13) := r_iload_n (j := 1) (by decide +kernel) rfl
theorem k_120_13 : Ok M120 13 (oAI 14) := r_iaload (by decide +kernel)
theorem k_120_14 : Ok M120 14 (oSI 2 3 15) := r_istore_n (j := 2) (by decide +kernel) rfl
theorem k_120_15 : Ok M120 15 (oLA 0 16) := r_aload_n (j := 0) (by decide +kernel) rfl
theorem k_120_16 : Ok M120 16 (oGe 5 0 19) := r_get (idx := 7) (by decide +kernel) cd_5 0 (by decide) w_678 rfl
theorem k_120_19 : Ok M120 19 (oLI 1 20) := r_iload_n (j := 1) (by decide +kernel) rfl
theorem k_120_20 : Ok M120 20 (oLA 0 21) := r_aload_n (j := 0) (by decide +kernel) rfl
theorem k_120_21 : Ok M120 21 (oGe 5 0 24) := r_get (idx := 7) (by decide +kernel) cd_5 0 (by decide) w_678 rfl
theorem k_120_24 : Ok M120 24 (oS (gKo (.int 385)) 27) := r_sipush (n := 385) (by decide +kernel) (by decide +kernel)
theorem k_120_27 : Ok M120 27 (oLI 1 28) := r_iload_n (j := 1) (by decide +kernel) rfl
theorem k_120_28 : Ok M120 28 (oS (gI2 f_iadd) 29) := r_iadd (by decide +kernel)
theorem k_120_29 : Ok M120 29 (oAI 30) := r_iaload (by decide +kernel)
theorem k_120_30 : Ok M120 30 (oAT 31) := r_iastore (by decide +kernel)
theorem k_120_31 : Ok M120 31 (oLA 0 32) := r_aload_n (j := 0) (by decide +kernel) rfl
theorem k_120_32 : Ok M120 32 (oGe 5 0 35) := r_get (idx := 7) (by decide +kernel) cd_5 0 (by decide) w_678 rfl
theorem k_120_35 : Ok M120 35 (oS (gKo (.int 385)) 38) := r_sipush (n := 385) (by decide +kernel) (by decide +kernel)
theorem k_120_38 : Ok M120 38 (oLI 1 39) := r_iload_n (j := 1) (by decide +kernel) rfl
theorem k_120_39 : Ok M120 39 (oS (gI2 f_iadd) 40) := r_iadd (by decide +kernel)
theorem k_120_40 : Ok M120 40 (oLI 2 41) := r_iload_n (j := 2) (by decide +kernel) rfl
theorem k_120_41 : Ok M120 41 (oAT 42) := r_iastore (by decide +kernel)
theorem k_120_42 : Ok M120 42 (oInc 1 1 3 45) := r_iinc (n := 1) (by decide +kernel) (by decide +kernel)
theorem k_120_45 : Ok M120 45 (oGo 2) := r_goto (off := (-43)) (by decide +kernel) (by decide +kernel)
theorem k_120_48 : Ok M120 48 (oLA 0 49) := r_aload_n (j := 0) (by decide +kernel) rfl
theorem k_120_49 : Ok M120 49 (oCV 5 101 0) := r_callV (idx := 135) (by decide +kernel) w_823 cv_101
theorem k_120_52 : Ok M120 52 (oLA 0 53) := r_aload_n (j := 0) (by decide +kernel) rfl
theorem k_120_53 : Ok M120 53 (oS (gKo (.int 385)) 56) := r_sipush (n := 385) (by decide +kernel) (by decide +kernel)
theorem k_120_56 : Ok M120 56 (oS (gKo (.int 0)) 57) := r_iconst (n := 0) (by decide +kernel) (by decide +kernel)
theorem k_120_57 : Ok M120 57 (oCV 5 100 2) := r_callV (idx := 44) (by decide +kernel) w_759 cv_100
theorem k_120_60 : Ok M120 60 (oRV) := r_return rfl (by decide +kernel)
def B120_0 : List (Nat × aO) := [(0, oS (gKo (.int 0)) 1), (1, oSI 1 3 2), (2, oLI 1 3), (3, oS (gKo (.int 55)) 5), (5, oB2 b_icmp_ge q_ge 48 8), (8, oLA 0 9), (9, oGe 5 0 12), (12, oLI 1 13)]
theorem B120_0_ok : ∀ q ∈ B120_0, Ok M120 q.1 q.2 := List.forall_mem_cons.mpr ⟨k_120_0, List.forall_mem_cons.mpr ⟨k_120_1, List.forall_mem_cons.mpr ⟨k_120_2, List.forall_mem_cons.mpr ⟨k_120_3, List.forall_mem_cons.mpr ⟨k_120_5, List.forall_mem_cons.mpr ⟨k_120_8, List.forall_mem_cons.mpr ⟨k_120_9, List.forall_mem_cons.mpr ⟨k_120_12, fun _ h => absurd h List.not_mem_nil⟩⟩⟩⟩⟩⟩⟩⟩
def B120_1 : List (Nat × aO) := [(13, oAI 14), (14, oSI 2 3 15), (15, oLA 0 16), (16, oGe 5 0 19), (19, oLI 1 20), (20, oLA 0 21), (21, oGe 5 0 24), (24, oS (gKo (.int 385)) 27)]
theorem B120_1_ok : ∀ q ∈ B120_1, Ok M120 q.1 q.2 := List.forall_mem_cons.mpr ⟨k_120_13, List.forall_mem_cons.mpr ⟨k_120_14, List.forall_mem_cons.mpr ⟨k_120_15, List.forall_mem_cons.mpr ⟨k_120_16, List.forall_mem_cons.mpr ⟨k_120_19, List.forall_mem_cons.mpr ⟨k_120_20, List.forall_mem_cons.mpr ⟨k_120_21, List.forall_mem_cons.mpr ⟨k_120_24, fun _ h => absurd h List.not_mem_nil⟩⟩⟩⟩⟩⟩⟩⟩
def B120_2 : List (Nat × aO) := [(27, oLI 1 28), (28, oS (gI2 f_iadd) 29), (29, oAI 30), (30, oAT 31), (31, oLA 0 32), (32, oGe 5 0 35), (35, oS (gKo (.int 385)) 38), (38, oLI 1 39)]
theorem B120_2_ok : ∀ q ∈ B120_2, Ok M120 q.1 q.2 := List.forall_mem_cons.mpr ⟨k_120_27, List.forall_mem_cons.mpr ⟨k_120_28, List.forall_mem_cons.mpr ⟨k_120_29, List.forall_mem_cons.mpr ⟨k_120_30, List.forall_mem_cons.mpr ⟨k_120_31, List.forall_mem_cons.mpr ⟨k_120_32, List.forall_mem_cons.mpr ⟨k_120_35, List.forall_mem_cons.mpr ⟨k_120_38, fun _ h => absurd h List.not_mem_nil⟩⟩⟩⟩⟩⟩⟩⟩
def B120_3 : List (Nat × aO) := [(39, oS (gI2 f_iadd) 40), (40, oLI 2 41), (41, oAT 42), (42, oInc 1 1 3 45), (45, oGo 2), (48, oLA 0 49), (49, oCV 5 101 0), (52, oLA 0 53)]
theorem B120_3_ok : ∀ q ∈ B120_3, Ok M120 q.1 q.2 := List.forall_mem_cons.mpr ⟨k_120_39, List.forall_mem_cons.mpr ⟨k_120_40, List.forall_mem_cons.mpr ⟨k_120_41, List.forall_mem_cons.mpr ⟨k_120_42, List.forall_mem_cons.mpr ⟨k_120_45, List.forall_mem_cons.mpr ⟨k_120_48, List.forall_mem_cons.mpr ⟨k_120_49, List.forall_mem_cons.mpr ⟨k_120_52, fun _ h => absurd h List.not_mem_nil⟩⟩⟩⟩⟩⟩⟩⟩
def B120_4 : List (Nat × aO) := [(53, oS (gKo (.int 385)) 56), (56, oS (gKo (.int 0)) 57), (57, oCV 5 100 2), (60, oRV)]
theorem B120_4_ok : ∀ q ∈ B120_4, Ok M120 q.1 q.2 := List.forall_mem_cons.mpr ⟨k_120_53, List.forall_mem_cons.mpr ⟨k_120_56, List.forall_mem_cons.mpr ⟨k_120_57, List.forall_mem_cons.mpr ⟨k_120_60, fun _ h => absurd h List.not_mem_nil⟩⟩⟩⟩
def P120 : List (Nat × List (Nat × aO)) := [(12, B120_0), (24, B120_1), (38, B120_2), (52, B120_3), (60, B120_4)]
theorem P120_ok : ∀ b ∈ P120, ∀ q ∈ b.2, Ok M120 q.1 q.2 := List.forall_mem_cons.mpr ⟨B120_0_ok, List.forall_mem_cons.mpr ⟨B120_1_ok, List.forall_mem_cons.mpr ⟨B120_2_ok, List.forall_mem_cons.mpr ⟨B120_3_ok, List.forall_mem_cons.mpr ⟨B120_4_ok, fun _ h => absurd h List.not_mem_nil⟩⟩⟩⟩⟩
theorem k_121_0 : Ok M121 0 (oLI 1 1) := r_iload_n (j := 1) (by decide +kernel) rfl
theorem k_121_1 : Ok M121 1 (oS gIL 2) := r_i2l (by decide +kernel)
theorem k_121_2 : Ok M121 2 (oS (gKo (.long 0)) 3) := r_lconst (n := 0) (by decide +kernel) (by decide +kernel)
theorem k_121_3 : Ok M121 3 (oK (.long 3) 6) := r_ldc2 (i := 138) (by decide +kernel) w_831
theorem k_121_6 : Ok M121 6 (oCS 96 3) := r_callS (idx := 48) (by decide +kernel) w_744 cs_96
theorem k_121_9 : Ok M121 9 (oB1 b_if_eq q_eq 21 12) := r_if_eq (off := 12) (by decide +kernel) (by decide +kernel)
theorem k_121_12 : Ok M121 12 (oLA 0 13) := r_aload_n (j := 0) (by decide +kernel) rfl
theorem k_121_13 : Ok M121 13 (oGe 5 5 16) := r_get (idx := 19) (by decide +kernel) cd_5 5 (by decide) w_683 rfl
theorem k_121_16 : Ok M121 16 (oLI 1 17) := r_iload_n (j := 1) (by decide +kernel) rfl
theorem k_121_17 : Ok M121 17 (oAI 18) := r_iaload (by decide +kernel)
theorem k_121_18 : Ok M121 18 (oGo 27) := r_goto (off := 9) (by decide +kernel) (by decide +kernel)
theorem k_121_21 : Ok M121 21 (oLA 0 22) := r_aload_n (j := 0) (by decide +kernel) rfl
theorem k_121_22 : Ok M121 22 (oS (gKo (.int (-2))) 24) := r_bipush (n := (-2)) (by decide +kernel) (by decide +kernel)
theorem k_121_24 : Ok M121 24 (oCV 5 99 1) := r_callV (idx := 54) (by decide +kernel) w_747 cv_99
theorem k_121_27 : Ok M121 27 (oRI) := r_ireturn rfl (by decide +kernel)
def B121_0 : List (Nat × aO) := [(0, oLI 1 1), (1, oS gIL 2), (2, oS (gKo (.long 0)) 3), (3, oK (.long 3) 6), (6, oCS 96 3), (9, oB1 b_if_eq q_eq 21 12), (12, oLA 0 13), (13, oGe 5 5 16)]
theorem B121_0_ok : ∀ q ∈ B121_0, Ok M121 q.1 q.2 := List.forall_mem_cons.mpr ⟨k_121_0, List.forall_mem_cons.mpr ⟨k_121_1, List.forall_mem_cons.mpr ⟨k_121_2, List.forall_mem_cons.mpr ⟨k_121_3, List.forall_mem_cons.mpr ⟨k_121_6, List.forall_mem_cons.mpr ⟨k_121_9, List.forall_mem_cons.mpr ⟨k_121_12, List.forall_mem_cons.mpr ⟨k_121_13, fun _ h => absurd h List.not_mem_nil⟩⟩⟩⟩⟩⟩⟩⟩
def B121_1 : List (Nat × aO) := [(16, oLI 1 17), (17, oAI 18), (18, oGo 27), (21, oLA 0 22), (22, oS (gKo (.int (-2))) 24), (24, oCV 5 99 1), (27, oRI)]
theorem B121_1_ok : ∀ q ∈ B121_1, Ok M121 q.1 q.2 := List.forall_mem_cons.mpr ⟨k_121_16, List.forall_mem_cons.mpr ⟨k_121_17, List.forall_mem_cons.mpr ⟨k_121_18, List.forall_mem_cons.mpr ⟨k_121_21, List.forall_mem_cons.mpr ⟨k_121_22, List.forall_mem_cons.mpr ⟨k_121_24, List.forall_mem_cons.mpr ⟨k_121_27, fun _ h => absurd h List.not_mem_nil⟩⟩⟩⟩⟩⟩⟩
def P121 : List (Nat × List (Nat × aO)) := [(13, B121_0), (27, B121_1)]
theorem P121_ok : ∀ b ∈ P121, ∀ q ∈ b.2, Ok M121 q.1 q.2 := List.forall_mem_cons.mpr ⟨B121_0_ok, List.forall_mem_cons.mpr ⟨B121_1_ok, fun _ h => absurd h List.not_mem_nil⟩⟩
theorem k_122_0 : Ok M122 0 (oLA 0 1) := r_aload_n (j := 0) (by decide +kernel) rfl
theorem k_122_1 : Ok M122 1 (oGe 5 0 4) := r_get (idx := 7) (by decide +kernel) cd_5 0 (by decide) w_678 rfl
theorem k_122_4 : Ok M122 4 (oS (gKo (.int 27)) 6) := r_bipush (n := 27) (by decide +kernel) (by decide +kernel)
theorem k_122_6 : Ok M122 6 (oLI 1 7) := r_iload_n (j := 1) (by decide +kernel) rfl
theorem k_122_7 : Ok M122 7 (oS (gI2 f_iadd) 8) := r_iadd (by decide +kernel)
theorem k_122_8 : Ok M122 8 (oAI 9) := r_iaload (by decide +kernel)
theorem k_122_9 : Ok M122 9 (oLA 0 10) := r_aload_n (j := 0) (by decide +kernel) rfl
theorem k_122_10 : Ok M122 10 (oGe 5 0 13) := r_get (idx := 7) (by decide +kernel) cd_5 0 (by decide) w_678 rfl
theorem k_122_13 : Ok M122 13 (oS (gKo (.int 2)) 14) := r_iconst (n := 2) (by decide +kernel) (by decide +kernel)
theorem k_122_14 : Ok M122 14 (oAI 15) := r_iaload (by decide +kernel)
theorem k_122_15 : Ok M122 15 (oS (gKo (.int 4)) 16) := r_iconst (n := 4) (by decide +kernel) (by decide +kernel)
theorem k_122_16 : Ok M122 16 (oB2 b_icmp_ne q_ne 23 19) := r_icmp_ne (off := 7) (by decide +kernel) (by decide +kernel)
theorem k_122_19 : Ok M122 19 (oS (gKo (.int 5)) 20) := r_iconst (n := 5) (by decide +kernel) (by decide +kernel)
theorem k_122_20 : Ok M122 20 (oGo 24) := r_goto (off := 4) (by decide +kernel) (by decide +kernel)
theorem k_122_23 : Ok M122 23 (oS (gKo (.int 1)) 24) := r_iconst (n := 1) (by decide +kernel) (by decide +kernel)
theorem k_122_24 : Ok M122 24 (oS (gI2 f_imul) 25) := r_imul (by decide +kernel)
theorem k_122_25 : Ok M122 25 (oRI) := r_ireturn rfl (by decide +kernel)
def B122_0 : List (Nat × aO) := [(0, oLA 0 1), (1, oGe 5 0 4), (4, oS (gKo (.int 27)) 6), (6, oLI 1 7), (7, oS (gI2 f_iadd) 8), (8, oAI 9), (9, oLA 0 10), (10, oGe 5 0 13)]
theorem B122_0_ok : ∀ q ∈ B122_0, Ok M122 q.1 q.2 := List.forall_mem_cons.mpr ⟨k_122_0, List.forall_mem_cons.mpr ⟨k_122_1, List.forall_mem_cons.mpr ⟨k_122_4, List.forall_mem_cons.mpr ⟨k_122_6, List.forall_mem_cons.mpr ⟨k_122_7, List.forall_mem_cons.mpr ⟨k_122_8, List.forall_mem_cons.mpr ⟨k_122_9, List.forall_mem_cons.mpr ⟨k_122_10, fun _ h => absurd h List.not_mem_nil⟩⟩⟩⟩⟩⟩⟩⟩
def B122_1 : List (Nat × aO) := [(13, oS (gKo (.int 2)) 14), (14, oAI 15), (15, oS (gKo (.int 4)) 16), (16, oB2 b_icmp_ne q_ne 23 19), (19, oS (gKo (.int 5)) 20), (20, oGo 24), (23, oS (gKo (.int 1)) 24), (24, oS (gI2 f_imul) 25)]
theorem B122_1_ok : ∀ q ∈ B122_1, Ok M122 q.1 q.2 := List.forall_mem_cons.mpr ⟨k_122_13, List.forall_mem_cons.mpr ⟨k_122_14, List.forall_mem_cons.mpr ⟨k_122_15, List.forall_mem_cons.mpr ⟨k_122_16, List.forall_mem_cons.mpr ⟨k_122_19, List.forall_mem_cons.mpr ⟨k_122_20, List.forall_mem_cons.mpr ⟨k_122_23, List.forall_mem_cons.mpr ⟨k_122_24, fun _ h => absurd h List.not_mem_nil⟩⟩⟩⟩⟩⟩⟩⟩
def B122_2 : List (Nat × aO) := [(25, oRI)]
theorem B122_2_ok : ∀ q ∈ B122_2, Ok M122 q.1 q.2 := List.forall_mem_cons.mpr ⟨k_122_25, fun _ h => absurd h List.not_mem_nil⟩
def P122 : List (Nat × List (Nat × aO)) := [(10, B122_0), (24, B122_1), (25, B122_2)]
theorem P122_ok : ∀ b ∈ P122, ∀ q ∈ b.2, Ok M122 q.1 q.2 := List.forall_mem_cons.mpr ⟨B122_0_ok, List.forall_mem_cons.mpr ⟨B122_1_ok, List.forall_mem_cons.mpr ⟨B122_2_ok, fun _ h => absurd h List.not_mem_nil⟩⟩⟩
theorem k_123_0 : Ok M123 0 (oLA 0 1) := r_aload_n (j := 0) (by decide +kernel) rfl
theorem k_123_1 : Ok M123 1 (oGe 5 0 4) := r_get (idx := 7) (by decide +kernel) cd_5 0 (by decide) w_678 rfl
theorem k_123_4 : Ok M123 4 (oS (gKo (.int 2)) 5) := r_iconst (n := 2) (by decide +kernel) (by decide +kernel)
theorem k_123_5 : Ok M123 5 (oAI 6) := r_iaload (by decide +kernel)
theorem k_123_6 : Ok M123 6 (oTb [36, 40, 46, 50] 56) := r_table (dflt := 50) (hi := 3) (offs := #[30, 34, 40, 44]) (len := 30) (by decide +kernel) (by decide +kernel) (by decide +kernel) (by decide +kernel)
theorem k_123_36 : Ok M123 36 (oLI 1 37) := r_iload_n (j := 1) (by decide +kernel) rfl
theorem k_123_37 : Ok M123 37 (oS (gKo (.int 1)) 38) := r_iconst (n := 1) (by decide +kernel) (by decide +kernel)
theorem k_123_38 : Ok M123 38 (oS (gI2 f_iadd) 39) := r_iadd (by decide +kernel)
theorem k_123_39 : Ok M123 39 (oRI) := r_ireturn rfl (by decide +kernel)
theorem k_123_40 : Ok M123 40 (oS (gKo (.int 2)) 41) := r_iconst (n := 2) (by decide +kernel) (by decide +kernel)
theorem k_123_41 : Ok M123 41 (oLI 1 42) := r_iload_n (j := 1) (by decide +kernel) rfl
theorem k_123_42 : Ok M123 42 (oS (gI2 f_imul) 43) := r_imul (by decide +kernel)
theorem k_123_43 : Ok M123 43 (oS (gKo (.int 1)) 44) := r_iconst (n := 1) (by decide +kernel) (by decide +kernel)
theorem k_123_44 : Ok M123 44 (oS (gI2 f_iadd) 45) := r_iadd (by decide +kernel)
theorem k_123_45 : Ok M123 45 (oRI) := r_ireturn rfl (by decide +kernel)
theorem k_123_46 : Ok M123 46 (oLI 1 47) := r_iload_n (j := 1) (by decide +kernel) rfl
theorem k_123_47 : Ok M123 47 (oS (gKo (.int 2)) 48) := r_iconst (n := 2) (by decide +kernel) (by decide +kernel)
theorem k_123_48 : Ok M123 48 (oS (gI2 f_iadd) 49) := r_iadd (by decide +kernel)
theorem k_123_49 : Ok M123 49 (oRI) := r_ireturn rfl (by decide +kernel)
theorem k_123_50 : Ok M123 50 (oS (gKo (.int 3)) 51) := r_iconst (n := 3) (by decide +kernel) (by decide +kernel)
theorem k_123_51 : Ok M123 51 (oLI 1 52) := r_iload_n (j := 1) (by decide +kernel) rfl
theorem k_123_52 : Ok M123 52 (oS (gI2 f_imul) 53) := r_imul (by decide +kernel)
theorem k_123_53 : Ok M123 53 (oS (gKo (.int 1)) 54) := r_iconst (n := 1) (by decide +kernel) (by decide +kernel)
theorem k_123_54 : Ok M123 54 (oS (gI2 f_iadd) 55) := r_iadd (by decide +kernel)
theorem k_123_55 : Ok M123 55 (oRI) := r_ireturn rfl (by decide +kernel)
theorem k_123_56 : Ok M123 56 (oLI 1 57) := r_iload_n (j := 1) (by decide +kernel) rfl
theorem k_123_57 : Ok M123 57 (oB1 b_if_ne q_ne 65 60) := r_if_ne (off := 8) (by decide +kernel) (by decide +kernel)
theorem k_123_60 : Ok M123 60 (oS (gKo (.int 7)) 62) := r_bipush (n := 7) (by decide +kernel) (by decide +kernel)
theorem k_123_62 : Ok M123 62 (oGo 71) := r_goto (off := 9) (by decide +kernel) (by decide +kernel)
theorem k_123_65 : Ok M123 65 (oS (gKo (.int 10)) 67) := r_bipush (n := 10) (by decide +kernel) (by decide +kernel)
theorem k_123_67 : Ok M123 67 (oLI 1 68) := r_iload_n (j := 1) (by decide +kernel) rfl
theorem k_123_68 : Ok M123 68 (oS (gI2 f_imul) 69) := r_imul (by decide +kernel)
theorem k_123_69 : Ok M123 69 (oS (gKo (.int 5)) 70) := r_iconst (n := 5) (by decide +kernel) (by decide +kernel)
theorem k_123_70 : Ok M123 70 (oS (gI2 f_iadd) 71) := r_iadd (by decide +kernel)
theorem k_123_71 : Ok M123 71 (oRI) := r_ireturn rfl (by decide +kernel)
def B123_0 : List (Nat × aO) := [(0, oLA 0 1), (1, oGe 5 0 4), (4, oS (gKo (.int 2)) 5), (5, oAI 6), (6, oTb [36, 40, 46, 50] 56), (36, oLI 1 37), (37, oS (gKo (.int 1)) 38), (38, oS (gI2 f_iadd) 39)]
theorem B123_0_ok : ∀ q ∈ B123_0, Ok M123 q.1 q.2 := List.forall_mem_cons.mpr ⟨k_123_0, List.forall_mem_cons.mpr ⟨k_123_1, List.forall_mem_cons.mpr ⟨k_123_4, List.forall_mem_cons.mpr ⟨k_123_5, List.forall_mem_cons.mpr ⟨k_123_6, List.forall_mem_cons.mpr ⟨k_123_36, List.forall_mem_cons.mpr ⟨k_123_37, List.forall_mem_cons.mpr ⟨k_123_38, fun _ h => absurd h List.not_mem_nil⟩⟩⟩⟩⟩⟩⟩⟩
def B123_1 : List (Nat × aO) := [(39, oRI), (40, oS (gKo (.int 2)) 41), (41, oLI 1 42), (42, oS (gI2 f_imul) 43), (43, oS (gKo (.int 1)) 44), (44, oS (gI2 f_iadd) 45), (45, oRI), (46, oLI 1 47)]
theorem B123_1_ok : ∀ q ∈ B123_1, Ok M123 q.1 q.2 := List.forall_mem_cons.mpr ⟨k_123_39, List.forall_mem_cons.mpr ⟨k_123_40, List.forall_mem_cons.mpr ⟨k_123_41, List.forall_mem_cons.mpr ⟨k_123_42, List.forall_mem_cons.mpr ⟨k_123_43, List.forall_mem_cons.mpr ⟨k_123_44, List.forall_mem_cons.mpr ⟨k_123_45, List.forall_mem_cons.mpr ⟨k_123_46, fun _ h => absurd h List.not_mem_nil⟩⟩⟩⟩⟩⟩⟩⟩
def B123_2 : List (Nat × aO) := [(47, oS (gKo (.int 2)) 48), (48, oS (gI2 f_iadd) 49), (49, oRI), (50, oS (gKo (.int 3)) 51), (51, oLI 1 52), (52, oS (gI2 f_imul) 53), (53, oS (gKo (.int 1)) 54), (54, oS (gI2 f_iadd) 55)]
theorem B123_2_ok : ∀ q ∈ B123_2, Ok M123 q.1 q.2 := List.forall_mem_cons.mpr ⟨k_123_47, List.forall_mem_cons.mpr ⟨k_123_48, List.forall_mem_cons.mpr ⟨k_123_49, List.forall_mem_cons.mpr ⟨k_123_50, List.forall_mem_cons.mpr ⟨k_123_51, List.forall_mem_cons.mpr ⟨k_123_52, List.forall_mem_cons.mpr ⟨k_123_53, List.forall_mem_cons.mpr ⟨k_123_54, fun _ h => absurd h List.not_mem_nil⟩⟩⟩⟩⟩⟩⟩⟩
def B123_3 : List (Nat × aO) := [(55, oRI), (56, oLI 1 57), (57, oB1 b_if_ne q_ne 65 60), (60, oS (gKo (.int 7)) 62), (62, oGo 71), (65, oS (gKo (.int 10)) 67), (67, oLI 1 68), (68, oS (gI2 f_imul) 69)]
theorem B123_3_ok : ∀ q ∈ B123_3, Ok M123 q.1 q.2 := List.forall_mem_cons.mpr ⟨k_123_55, List.forall_mem_cons.mpr ⟨k_123_56, List.forall_mem_cons.mpr ⟨k_123_57, List.forall_mem_cons.mpr ⟨k_123_60, List.forall_mem_cons.mpr ⟨k_123_62, List.forall_mem_cons.mpr ⟨k_123_65, List.forall_mem_cons.mpr ⟨k_123_67, List.forall_mem_cons.mpr ⟨k_123_68, fun _ h => absurd h List.not_mem_nil⟩⟩⟩⟩⟩⟩⟩⟩
def B123_4 : List (Nat × aO) := [(69, oS (gKo (.int 5)) 70), (70, oS (gI2 f_iadd) 71), (71, oRI)]
theorem B123_4_ok : ∀ q ∈ B123_4, Ok M123 q.1 q.2 := List.forall_mem_cons.mpr ⟨k_123_69, List.forall_mem_cons.mpr ⟨k_123_70, List.forall_mem_cons.mpr ⟨k_123_71, fun _ h => absurd h List.not_mem_nil⟩⟩⟩
def P123 : List (Nat × List (Nat × aO)) := [(38, B123_0), (46, B123_1), (54, B123_2), (68, B123_3), (71, B123_4)]
theorem P123_ok : ∀ b ∈ P123, ∀ q ∈ b.2, Ok M123 q.1 q.2 := List.forall_mem_cons.mpr ⟨B123_0_ok, List.forall_mem_cons.mpr ⟨B123_1_ok, List.forall_mem_cons.mpr ⟨B123_2_ok, List.forall_mem_cons.mpr ⟨B123_3_ok, List.forall_mem_cons.mpr ⟨B123_4_ok, fun _ h => absurd h List.not_mem_nil⟩⟩⟩⟩⟩
theorem k_124_0 : Ok M124 0 (oLA 0 1) := r_aload_n (j := 0) (by decide +kernel) rfl
theorem k_124_1 : Ok M124 1 (oLI 1 2) := r_iload_n (j := 1) (by decide +kernel) rfl
theorem k_124_2 : Ok M124 2 (oCV 5 122 1) := r_callV (idx := 140) (by decide +kernel) w_848 cv_122
theorem k_124_5 : Ok M124 5 (oS gIL 6) := r_i2l (by decide +kernel)
theorem k_124_6 : Ok M124 6 (oLA 0 7) := r_aload_n (j := 0) (by decide +kernel) rfl
theorem k_124_7 : Ok M124 7 (oLA 0 8) := r_aload_n (j := 0) (by decide +kernel) rfl
theorem k_124_8 : Ok M124 8 (oGe 5 13 11) := r_get (idx := 25) (by decide +kernel) cd_5 13 (by decide) w_691 rfl
theorem k_124_11 : Ok M124 11 (oLI 2 12) := r_iload_n (j := 2) (by decide +kernel) rfl
theorem k_124_12 : Ok M124 12 (oAI 13) := r_iaload (by decide +kernel)
theorem k_124_13 : Ok M124 13 (oCV 5 123 1) := r_callV (idx := 143) (by decide +kernel) w_852 cv_123
theorem k_124_16 : Ok M124 16 (oS gIL 17) := r_i2l (by decide +kernel)
theorem k_124_17 : Ok M124 17 (oS (gL2 f_lmul) 18) := r_lmul (by decide +kernel)
theorem k_124_18 : Ok M124 18 (oSL 3 7 19) := r_lstore_n (j := 3) (by decide +kernel) rfl
theorem k_124_19 : Ok M124 19 (oLA 0 20) := r_aload_n (j := 0) (by decide +kernel) rfl
theorem k_124_20 : Ok M124 20 (oLI 2 21) := r_iload_n (j := 2) (by decide +kernel) rfl
theorem k_124_21 : Ok M124 21 (oCV 5 122 1) := r_callV (idx := 140) (by decide +kernel) w_848 cv_122
theorem k_124_24 : Ok M124 24 (oS gIL 25) := r_i2l (by decide +kernel)
theorem k_124_25 : Ok M124 25 (oLA 0 26) := r_aload_n (j := 0) (by decide +kernel) rfl
theorem k_124_26 : Ok M124 26 (oLA 0 27) := r_aload_n (j := 0) (by decide +kernel) rfl
theorem k_124_27 : Ok M124 27 (oGe 5 13 30) := r_get (idx := 25) (by decide +kernel) cd_5 13 (by decide) w_691 rfl
theorem k_124_30 : Ok M124 30 (oLI 1 31) := r_iload_n (j := 1) (by decide +kernel) rfl
theorem k_124_31 : Ok M124 31 (oAI 32) := r_iaload (by decide +kernel)
theorem k_124_32 : Ok M124 32 (oCV 5 123 1) := r_callV (idx := 143) (by decide +kernel) w_852 cv_123
theorem k_124_35 : Ok M124 35 (oS gIL 36) := r_i2l (by decide +kernel)
theorem k_124_36 : Ok M124 36 (oS (gL2 f_lmul) 37) := r_lmul (by decide +kernel)
theorem k_124_37 : Ok M124 37 (oSL 5 7 39) := r_lstore (by decide +kernel)
theorem k_124_39 : Ok M124 39 (oLL 3 40) := r_lload_n (j := 3) (by decide +kernel) rfl
theorem k_124_40 : Ok M124 40 (oLL 5 42) := r_lload (by decide +kernel)
theorem k_124_42 : Ok M124 42 (oS gCm 43) := r_lcmp (by decide +kernel)
theorem k_124_43 : Ok M124 43 (oB1 b_if_gt q_gt 100 46) := r_if_gt (off := 57) (by decide +kernel) (by decide +kernel)
theorem k_124_46 : Ok M124 46 (oLL 3 47) := r_lload_n (j := 3) (by decide +kernel) rfl
theorem k_124_47 : Ok M124 47 (oLL 5 49) := r_lload (by decide +kernel)
theorem k_124_49 : Ok M124 49 (oS gCm 50) := r_lcmp (by decide +kernel)
theorem k_124_50 : Ok M124 50 (oB1 b_if_ne q_ne 104 53) := r_if_ne (off := 54) (by decide +kernel) (by decide +kernel)
theorem k_124_53 : Ok M124 53 (oLA 0 54) := r_aload_n (j := 0) (by decide +kernel) rfl
theorem k_124_54 : Ok M124 54 (oGe 5 0 57) := r_get (idx := 7) (by decide +kernel) cd_5 0 (by decide) w_678 rfl
theorem k_124_57 : Ok M124 57 (oS (gKo (.int 27)) 59) := r_bipush (n := 27) (by decide +kernel) (by decide +kernel)
theorem k_124_59 : Ok M124 59 (oLI 1 60) := r_iload_n (j := 1) (by decide +kernel) rfl
theorem k_124_60 : Ok M124 60 (oS (gI2 f_iadd) 61) := r_iadd (by decide +kernel)
theorem k_124_61 : Ok M124 61 (oAI 62) := r_iaload (by decide +kernel)
theorem k_124_62 : Ok M124 62 (oLA 0 63) := r_aload_n (j := 0) (by decide +kernel) rfl
theorem k_124_63 : Ok M124 63 (oGe 5 0 66) := r_get (idx := 7) (by decide +kernel) cd_5 0 (by decide) w_678 rfl
theorem k_124_66 : Ok M124 66 (oS (gKo (.int 27)) 68) := r_bipush (n := 27) (by decide +kernel) (by decide +kernel)
theorem k_124_68 : Ok M124 68 (oLI 2 69) := r_iload_n (j := 2) (by decide +kernel) rfl
theorem k_124_69 : Ok M124 69 (oS (gI2 f_iadd) 70) := r_iadd (by decide +kernel)
theorem k_124_70 : Ok M124 70 (oAI 71) := r_iaload (by decide +kernel)
theorem k_124_71 : Ok M124 71 (oB2 b_icmp_gt q_gt 100 74) := r_icmp_gt (off := 29) (by decide +kernel) (by decide +kernel)
theorem k_124_74 : Ok M124 74 (oLA 0 75) := r_aload_n (j := 0) (by decide +kernel) rfl
theorem k_124_75 : Ok M124 75 (oGe 5 0 78) := r_get (idx := 7) (by decide +kernel) cd_5 0 (by decide) w_678 rfl
theorem k_124_78 : Ok M124 78 (oS (gKo (.int 27)) 80) := r_bipush (n := 27) (by decide +kernel) (by decide +kernel)
theorem k_124_80 : Ok M124 80 (oLI 1 81) := r_iload_n (j := 1) (by decide +kernel) rfl
theorem k_124_81 : Ok M124 81 (oS (gI2 f_iadd) 82) := r_iadd (by decide +kernel)
theorem k_124_82 : Ok M124 82 (oAI 83) := r_iaload (by decide +kernel)
theorem k_124_83 : Ok M124 83 (oLA 0 84) := r_aload_n (j := 0) (by decide +kernel) rfl
theorem k_124_84 : Ok M124 84 (oGe 5 0 87) := r_get (idx := 7) (by decide +kernel) cd_5 0 (by decide) w_678 rfl
theorem k_124_87 : Ok M124 87 (oS (gKo (.int 27)) 89) := r_bipush (n := 27) (by decide +kernel) (by decide +kernel)
theorem k_124_89 : Ok M124 89 (oLI 2 90) := r_iload_n (j := 2) (by decide +kernel) rfl
theorem k_124_90 : Ok M124 90 (oS (gI2 f_iadd) 91) := r_iadd (by decide +kernel)
theorem k_124_91 : Ok M124 91 (oAI 92) := r_iaload (by decide +kernel)
theorem k_124_92 : Ok M124 92 (oB2 b_icmp_ne q_ne 104 95) := r_icmp_ne (off := 12) (by decide +kernel) (by decide +kernel)
theorem k_124_95 : Ok M124 95 (oLI 1 96) := r_iload_n (j := 1) (by decide +kernel) rfl
theorem k_124_96 : Ok M124 96 (oLI 2 97) := r_iload_n (j := 2) (by decide +kernel) rfl
theorem k_124_97 : Ok M124 97 (oB2 b_icmp_ge q_ge 104 100) := r_icmp_ge (off := 7) (by decide +kernel) (by decide +kernel)
theorem k_124_100 : Ok M124 100 (oS (gKo (.int 1)) 101) := r_iconst (n := 1) (by decide +kernel) (by decide +kernel)
theorem k_124_101 : Ok M124 101 (oGo 105) := r_goto (off := 4) (by decide +kernel) (by decide +kernel)
theorem k_124_104 : Ok M124 104 (oS (gKo (.int 0)) 105) := r_iconst (n := 0) (by decide +kernel) (by decide +kernel)
theorem k_124_105 : Ok M124 105 (oRZ) := r_zreturn rfl (by decide +kernel)
def B124_0 : List (Nat × aO) := [(0, oLA 0 1), (1, oLI 1 2), (2, oCV 5 122 1), (5, oS gIL 6), (6, oLA 0 7), (7, oLA 0 8), (8, oGe 5 13 11), (11, oLI 2 12)]
theorem B124_0_ok : ∀ q ∈ B124_0, Ok M124 q.1 q.2 := List.forall_mem_cons.mpr ⟨k_124_0, List.forall_mem_cons.mpr ⟨k_124_1, List.forall_mem_cons.mpr ⟨k_124_2, List.forall_mem_cons.mpr ⟨k_124_5, List.forall_mem_cons.mpr ⟨k_124_6, List.forall_mem_cons.mpr ⟨k_124_7, List.forall_mem_cons.mpr ⟨k_124_8, List.forall_mem_cons.mpr ⟨k_124_11, fun _ h => absurd h List.not_mem_nil⟩⟩⟩⟩⟩⟩⟩⟩
def B124_1 : List (Nat × aO) := [(12, oAI 13), (13, oCV 5 123 1), (16, oS gIL 17), (17, oS (gL2 f_lmul) 18), (18, oSL 3 7 19), (19, oLA 0 20), (20, oLI 2 21), (21, oCV 5 122 1)]
theorem B124_1_ok : ∀ q ∈ B124_1, Ok M124 q.1 q.2 := List.forall_mem_cons.mpr ⟨k_124_12, List.forall_mem_cons.mpr ⟨k_124_13, List.forall_mem_cons.mpr ⟨k_124_16, List.forall_mem_cons.mpr ⟨k_124_17, List.forall_mem_cons.mpr ⟨k_124_18, List.forall_mem_cons.mpr ⟨k_124_19, List.forall_mem_cons.mpr ⟨k_124_20, List.forall_mem_cons.mpr ⟨k_124_21, fun _ h => absurd h List.not_mem_nil⟩⟩⟩⟩⟩⟩⟩⟩
def B124_2 : List (Nat × aO) := [(24, oS gIL 25), (25, oLA 0 26), (26, oLA 0 27), (27, oGe 5 13 30), (30, oLI 1 31), (31, oAI 32), (32, oCV 5 123 1), (35, oS gIL 36)]
theorem B124_2_ok : ∀ q ∈ B124_2, Ok M124 q.1 q.2 := List.forall_mem_cons.mpr ⟨k_124_24, List.forall_mem_cons.mpr ⟨k_124_25, List.forall_mem_cons.mpr ⟨k_124_26, List.forall_mem_cons.mpr ⟨k_124_27, List.forall_mem_cons.mpr ⟨k_124_30, List.forall_mem_cons.mpr ⟨k_124_31, List.forall_mem_cons.mpr ⟨k_124_32, List.forall_mem_cons.mpr ⟨k_124_35, fun _ h => absurd h List.not_mem_nil⟩⟩⟩⟩⟩⟩⟩⟩
def B124_3 : List (Nat × aO) := [(36, oS (gL2 f_lmul) 37), (37, oSL 5 7 39), (39, oLL 3 40), (40, oLL 5 42), (42, oS gCm 43), (43, oB1 b_if_gt q_gt 100 46), (46, oLL 3 47), (47, oLL 5 49)]
theorem B124_3_ok : ∀ q ∈ B124_3, Ok M124 q.1 q.2 := List.forall_mem_cons.mpr ⟨k_124_36, List.forall_mem_cons.mpr ⟨k_124_37, List.forall_mem_cons.mpr ⟨k_124_39, List.forall_mem_cons.mpr ⟨k_124_40, List.forall_mem_cons.mpr ⟨k_124_42, List.forall_mem_cons.mpr ⟨k_124_43, List.forall_mem_cons.mpr ⟨k_124_46, List.forall_mem_cons.mpr ⟨k_124_47, fun _ h => absurd h List.not_mem_nil⟩⟩⟩⟩⟩⟩⟩⟩
def B124_4 : List (Nat × aO) := [(49, oS gCm 50), (50, oB1 b_if_ne q_ne 104 53), (53, oLA 0 54), (54, oGe 5 0 57), (57, oS (gKo (.int 27)) 59), (59, oLI 1 60), (60, oS (gI2 f_iadd) 61), (61, oAI 62)]
theorem B124_4_ok : ∀ q ∈ B124_4, Ok M124 q.1 q.2 := List.forall_mem_cons.mpr ⟨k_124_49, List.forall_mem_cons.mpr ⟨k_124_50, List.forall_mem_cons.mpr ⟨k_124_53, List.forall_mem_cons.mpr ⟨k_124_54, List.forall_mem_cons.mpr ⟨k_124_57, List.forall_mem_cons.mpr ⟨k_124_59, List.forall_mem_cons.mpr ⟨k_124_60, List.forall_mem_cons.mpr ⟨k_124_61, fun _ h => absurd h List.not_mem_nil⟩⟩⟩⟩⟩⟩⟩⟩
def B124_5 : List (Nat × aO) := [(62, oLA 0 63), (63, oGe 5 0 66), (66, oS (gKo (.int 27)) 68), (68, oLI 2 69), (69, oS (gI2 f_iadd) 70), (70, oAI 71), (71, oB2 b_icmp_gt q_gt 100 74), (74, oLA 0 75)]
theorem B124_5_ok : ∀ q ∈ B124_5, Ok M124 q.1 q.2 := List.forall_mem_cons.mpr ⟨k_124_62, List.forall_mem_cons.mpr ⟨k_124_63, List.forall_mem_cons.mpr ⟨k_124_66, List.forall_mem_cons.mpr ⟨k_124_68, List.forall_mem_cons.mpr ⟨k_124_69, List.forall_mem_cons.mpr ⟨k_124_70, List.forall_mem_cons.mpr ⟨k_124_71, List.forall_mem_cons.mpr ⟨k_124_74, fun _ h => absurd h List.not_mem_nil⟩⟩⟩⟩⟩⟩⟩⟩
def B124_6 : List (Nat × aO) := [(75, oGe 5 0 78), (78, oS (gKo (.int 27)) 80), (80, oLI 1 81), (81, oS (gI2 f_iadd) 82), (82, oAI 83), (83, oLA 0 84), (84, oGe 5 0 87), (87, oS (gKo (.int 27)) 89)]
theorem B124_6_ok : ∀ q ∈ B124_6, Ok M124 q.1 q.2 := List.forall_mem_cons.mpr ⟨k_124_75, List.forall_mem_cons.mpr ⟨k_124_78, List.forall_mem_cons.mpr ⟨k_124_80, List.forall_mem_cons.mpr ⟨k_124_81, List.forall_mem_cons.mpr ⟨k_124_82, List.forall_mem_cons.mpr ⟨k_124_83, List.forall_mem_cons.mpr ⟨k_124_84, List.forall_mem_cons.mpr ⟨k_124_87, fun _ h => absurd h List.not_mem_nil⟩⟩⟩⟩⟩⟩⟩⟩
def B124_7 : List (Nat × aO) := [(89, oLI 2 90), (90, oS (gI2 f_iadd) 91), (91, oAI 92), (92, oB2 b_icmp_ne q_ne 104 95), (95, oLI 1 96), (96, oLI 2 97), (97, oB2 b_icmp_ge q_ge 104 100), (100, oS (gKo (.int 1)) 101)]
theorem B124_7_ok : ∀ q ∈ B124_7, Ok M124 q.1 q.2 := List.forall_mem_cons.mpr ⟨k_124_89, List.forall_mem_cons.mpr ⟨k_124_90, List.forall_mem_cons.mpr ⟨k_124_91, List.forall_mem_cons.mpr ⟨k_124_92, List.forall_mem_cons.mpr ⟨k_124_95, List.forall_mem_cons.mpr ⟨k_124_96, List.forall_mem_cons.mpr ⟨k_124_97, List.forall_mem_cons.mpr ⟨k_124_100, fun _ h => absurd h List.not_mem_nil⟩⟩⟩⟩⟩⟩⟩⟩
def B124_8 : List (Nat × aO) := [(101, oGo 105), (104, oS (gKo (.int 0)) 105), (105, oRZ)]
theorem B124_8_ok : ∀ q ∈ B124_8, Ok M124 q.1 q.2 := List.forall_mem_cons.mpr ⟨k_124_101, List.forall_mem_cons.mpr ⟨k_124_104, List.forall_mem_cons.mpr ⟨k_124_105, fun _ h => absurd h List.not_mem_nil⟩⟩⟩
def P124 : List (Nat × List (Nat × aO)) := [(11, B124_0), (21, B124_1), (35, B124_2), (47, B124_3), (61, B124_4), (74, B124_5), (87, B124_6), (100, B124_7), (105, B124_8)]
theorem P124_ok : ∀ b ∈ P124, ∀ q ∈ b.2, Ok M124 q.1 q.2 := List.forall_mem_cons.mpr ⟨B124_0_ok, List.forall_mem_cons.mpr ⟨B124_1_ok, List.forall_mem_cons.mpr ⟨B124_2_ok, List.forall_mem_cons.mpr ⟨B124_3_ok, List.forall_mem_cons.mpr ⟨B124_4_ok, List.forall_mem_cons.mpr ⟨B124_5_ok, List.forall_mem_cons.mpr ⟨B124_6_ok, List.forall_mem_cons.mpr ⟨B124_7_ok, List.forall_mem_cons.mpr ⟨B124_8_ok, fun _ h => absurd h List.not_mem_nil⟩⟩⟩⟩⟩⟩⟩⟩⟩
theorem k_125_0 : Ok M125 0 (oS (gKo (.int 0)) 1) := r_iconst (n := 0) (by decide +kernel) (by decide +kernel)
theorem k_125_1 : Ok M125 1 (oSI 1 4 2) := r_istore_n (j := 1) (by decide +kernel) rfl
theorem k_125_2 : Ok M125 2 (oLI 1 3) := r_iload_n (j := 1) (by decide +kernel) rfl
theorem k_125_3 : Ok M125 3 (oS (gKo (.int 4)) 4) := r_iconst (n := 4) (by decide +kernel) (by decide +kernel)
theorem k_125_4 : Ok M125 4 (oB2 b_icmp_ge q_ge 20 7) := r_icmp_ge (off := 16) (by decide +kernel) (by decide +kernel)
theorem k_125_7 : Ok M125 7 (oLA 0 8) := r_aload_n (j := 0) (by decide +kernel) rfl
theorem k_125_8 : Ok M125 8 (oGe 5 13 11) := r_get (idx := 25) (by decide +kernel) cd_5 13 (by decide) w_691 rfl
theorem k_125_11 : Ok M125 11 (oLI 1 12) := r_iload_n (j := 1) (by decide +kernel) rfl
theorem k_125_12 : Ok M125 12 (oS (gKo (.int 0)) 13) := r_iconst (n := 0) (by decide +kernel) (by decide +kernel)
theorem k_125_13 : Ok M125 13 (oAT 14) := r_iastore (by decide +kernel)
theorem k_125_14 : Ok M125 14 (oInc 1 1 4 17) := r_iinc (n := 1) (by decide +kernel) (by decide +kernel)
theorem k_125_17 : Ok M125 17 (oGo 2) := r_goto (off := (-15)) (by decide +kernel) (by decide +kernel)
theorem k_125_20 : Ok M125 20 (oS (gKo (.int 0)) 21) := r_iconst (n := 0) (by decide +kernel) (by decide +kernel)
theorem k_125_21 : Ok M125 21 (oSI 1 4 22) := r_istore_n (j := 1) (by decide +kernel) rfl
theorem k_125_22 : Ok M125 22 (oLI 1 23) := r_iload_n (j := 1) (by decide +kernel) rfl
theorem k_125_23 : Ok M125 23 (oS (gKo (.int 6)) 25) := r_bipush (n := 6) (by decide +kernel) (by decide +kernel)
theorem k_125_25 : Ok M125 25 (oB2 b_icmp_ge q_ge 110 28) := r_icmp_ge (off := 85) (by decide +kernel) (by decide +kernel)
theorem k_125_28 : Ok M125 28 (oS (gKo (.int (-1))) 29) := r_iconst (n := (-1)) (by decide +kernel) (by decide +kernel)
theorem k_125_29 : Ok M125 29 (oSI 2 4 30) := r_istore_n (j := 2) (by decide +kernel) rfl
theorem k_125_30 : Ok M125 30 (oS (gKo (.int 0)) 31) := r_iconst (n := 0) (by decide +kernel) (by decide +kernel)
theorem k_125_31 : Ok M125 31 (oSI 3 4 32) := r_istore_n (j := 3) (by decide +kernel) rfl
theorem k_125_32 : Ok M125 32 (oLI 3 33) := r_iload_n (j := 3) (by decide +kernel) rfl
theorem k_125_33 : Ok M125 33 (oLA 0 34) := r_aload_n (j := 0) (by decide +kernel) rfl
theorem k_125_34 : Ok M125 34 (oGe 5 0 37) := r_get (idx := 7) (by decide +kernel) cd_5 0 (by decide) w_678 rfl
theorem k_125_37 : Ok M125 37 (oS (gKo (.int 1)) 38) := r_iconst (n := 1) (by decide +kernel) (by decide +kernel)
theorem k_125_38 : Ok M125 38 (oAI 39) := r_iaload (by decide +kernel)
theorem k_125_39 : Ok M125 39 (oB2 b_icmp_ge q_ge 78 42) := r_icmp_ge (off := 39) (by decide +kernel) (by decide +kernel)
theorem k_125_42 : Ok M125 42 (oLI 1 43) := r_iload_n (j := 1) (by decide +kernel) rfl
theorem k_125_43 : Ok M125 43 (oLA 0 44) := r_aload_n (j := 0) (by decide +kernel) rfl
theorem k_125_44 : Ok M125 44 (oGe 5 0 47) := r_get (idx := 7) (by decide +kernel) cd_5 0 (by decide) w_678 rfl
theorem k_125_47 : Ok M125 47 (oS (gKo (.int 0)) 48) := r_iconst (n := 0) (by decide +kernel) (by decide +kernel)
theorem k_125_48 : Ok M125 48 (oAI 49) := r_iaload (by decide +kernel)
theorem k_125_49 : Ok M125 49 (oB2 b_icmp_ge q_ge 78 52) := r_icmp_ge (off := 29) (by decide +kernel) (by decide +kernel)
theorem k_125_52 : Ok M125 52 (oLI 2 53) := r_iload_n (j := 2) (by decide +kernel) rfl
theorem k_125_53 : Ok M125 53 (oS (gKo (.int (-1))) 54) := r_iconst (n := (-1)) (by decide +kernel) (by decide +kernel)
theorem k_125_54 : Ok M125 54 (oB2 b_icmp_eq q_eq 66 57) := r_icmp_eq (off := 12) (by decide +kernel) (by decide +kernel)
theorem k_125_57 : Ok M125 57 (oLA 0 58) := r_aload_n (j := 0) (by decide +kernel) rfl
theorem k_125_58 : Ok M125 58 (oLI 3 59) := r_iload_n (j := 3) (by decide +kernel) rfl
theorem k_125_59 : Ok M125 59 (oLI 2 60) := r_iload_n (j := 2) (by decide +kernel) rfl
theorem k_125_60 : Ok M125 60 (oCV 5 124 2) := r_callV (idx := 146) (by decide +kernel) w_844 cv_124
theorem k_125_63 : Ok M125 63 (oB1 b_if_eq q_eq 70 66) := r_if_eq (off := 7) (by decide +kernel) (by decide +kernel)
theorem k_125_66 : Ok M125 66 (oLI 3 67) := r_iload_n (j := 3) (by decide +kernel) rfl
theorem k_125_67 : Ok M125 67 (oGo 71) := r_goto (off := 4) (by decide +kernel) (by decide +kernel)
theorem k_125_70 : Ok M125 70 (oLI 2 71) := r_iload_n (j := 2) (by decide +kernel) rfl
theorem k_125_71 : Ok M125 71 (oSI 2 4 72) := r_istore_n (j := 2) (by decide +kernel) rfl
theorem k_125_72 : Ok M125 72 (oInc 3 1 4 75) := r_iinc (n := 1) (by decide +kernel) (by decide +kernel)
theorem k_125_75 : Ok M125 75 (oGo 32) := r_goto (off := (-43)) (by decide +kernel) (by decide +kernel)
theorem k_125_78 : Ok M125 78 (oLA 0 79) := r_aload_n (j := 0) (by decide +kernel) rfl
theorem k_125_79 : Ok M125 79 (oGe 5 12 82) := r_get (idx := 22) (by decide +kernel) cd_5 12 (by decide) w_690 rfl
theorem k_125_82 : Ok M125 82 (oLI 1 83) := r_iload_n (j := 1) (by decide +kernel) rfl
theorem k_125_83 : Ok M125 83 (oLI 2 84) := r_iload_n (j := 2) (by decide +kernel) rfl
theorem k_125_84 : Ok M125 84 (oAT 85) := r_iastore (by decide +kernel)
theorem k_125_85 : Ok M125 85 (oLA 0 86) := r_aload_n (j := 0) (by decide +kernel) rfl
theorem k_125_86 : Ok M125 86 (oGe 5 13 89) := r_get (idx := 25) (by decide +kernel) cd_5 13 (by decide) w_691 rfl
theorem k_125_89 : Ok M125 89 (oLI 2 90) := r_iload_n (j := 2) (by decide +kernel) rfl
theorem k_125_90 : Ok M125 90 (oS (gKo (.int (-1))) 91) := r_iconst (n := (-1)) (by decide +kernel) (by decide +kernel)
theorem k_125_91 : Ok M125 91 (oB2 b_icmp_ne q_ne 98 94) := r_icmp_ne (off := 7) (by decide +kernel) (by decide +kernel)
theorem k_125_94 : Ok M125 94 (oS (gKo (.int 0)) 95) := r_iconst (n := 0) (by decide +kernel) (by decide +kernel)
theorem k_125_95 : Ok M125 95 (oGo 99) := r_goto (off := 4) (by decide +kernel) (by decide +kernel)
theorem k_125_98 : Ok M125 98 (oLI 2 99) := r_iload_n (j := 2) (by decide +kernel) rfl
theorem k_125_99 : Ok M125 99 (oS gD2 100) := r_dup2 (by decide +kernel)
theorem k_125_100 : Ok M125 100 (oAI 101) := r_iaload (by decide +kernel)
theorem k_125_101 : Ok M125 101 (oS (gKo (.int 1)) 102) := r_iconst (n := 1) (by decide +kernel) (by decide +kernel)
theorem k_125_102 : Ok M125 102 (oS (gI2 f_iadd) 103) := r_iadd (by decide +kernel)
theorem k_125_103 : Ok M125 103 (oAT 104) := r_iastore (by decide +kernel)
theorem k_125_104 : Ok M125 104 (oInc 1 1 4 107) := r_iinc (n := 1) (by decide +kernel) (by decide +kernel)
theorem k_125_107 : Ok M125 107 (oGo 22) := r_goto (off := (-85)) (by decide +kernel) (by decide +kernel)
theorem k_125_110 : Ok M125 110 (oRV) := r_return rfl (by decide +kernel)
def B125_0 : List (Nat × aO) := [(0, oS (gKo (.int 0)) 1), (1, oSI 1 4 2), (2, oLI 1 3), (3, oS (gKo (.int 4)) 4), (4, oB2 b_icmp_ge q_ge 20 7), (7, oLA 0 8), (8, oGe 5 13 11), (11, oLI 1 12)]
theorem B125_0_ok : ∀ q ∈ B125_0, Ok M125 q.1 q.2 := List.forall_mem_cons.mpr ⟨k_125_0, List.forall_mem_cons.mpr ⟨k_125_1, List.forall_mem_cons.mpr ⟨k_125_2, List.forall_mem_cons.mpr ⟨k_125_3, List.forall_mem_cons.mpr ⟨k_125_4, List.forall_mem_cons.mpr ⟨k_125_7, List.forall_mem_cons.mpr ⟨k_125_8, List.forall_mem_cons.mpr ⟨k_125_11, fun _ h => absurd h List.not_mem_nil⟩⟩⟩⟩⟩⟩⟩⟩
def B125_1 : List (Nat × aO) := [(12, oS (gKo (.int 0)) 13), (13, oAT 14), (14, oInc 1 1 4 17), (17, oGo 2), (20, oS (gKo (.int 0)) 21), (21, oSI 1 4 22), (22, oLI 1 23), (23, oS (gKo (.int 6)) 25)]
theorem B125_1_ok : ∀ q ∈ B125_1, Ok M125 q.1 q.2 := List.forall_mem_cons.mpr ⟨k_125_12, List.forall_mem_cons.mpr ⟨k_125_13, List.forall_mem_cons.mpr ⟨k_125_14, List.forall_mem_cons.mpr ⟨k_125_17, List.forall_mem_cons.mpr ⟨k_125_20, List.forall_mem_cons.mpr ⟨k_125_21, List.forall_mem_cons.mpr ⟨k_125_22, List.forall_mem_cons.mpr ⟨k_125_23, fun _ h => absurd h List.not_mem_nil⟩⟩⟩⟩⟩⟩⟩⟩
def B125_2 : List (Nat × aO) := [(25, oB2 b_icmp_ge q_ge 110 28), (28, oS (gKo (.int (-1))) 29), (29, oSI 2 4 30), (30, oS (gKo (.int 0)) 31), (31, oSI 3 4 32), (32, oLI 3 33), (33, oLA 0 34), (34, oGe 5 0 37)]
theorem B125_2_ok : ∀ q ∈ B125_2, Ok M125 q.1 q.2 := List.forall_mem_cons.mpr ⟨k_125_25, List.forall_mem_cons.mpr ⟨k_125_28, List.forall_mem_cons.mpr ⟨k_125_29, List.forall_mem_cons.mpr ⟨k_125_30, List.forall_mem_cons.mpr ⟨k_125_31, List.forall_mem_cons.mpr ⟨k_125_32, List.forall_mem_cons.mpr ⟨k_125_33, List.forall_mem_cons.mpr ⟨k_125_34, fun _ h => absurd h List.not_mem_nil⟩⟩⟩⟩⟩⟩⟩⟩
def B125_3 : List (Nat × aO) := [(37, oS (gKo (.int 1)) 38), (38, oAI 39), (39, oB2 b_icmp_ge q_ge 78 42), (42, oLI 1 43), (43, oLA 0 44), (44, oGe 5 0 47), (47, oS (gKo (.int 0)) 48), (48, oAI 49)]
theorem B125_3_ok : ∀ q ∈ B125_3, Ok M125 q.1 q.2 := List.forall_mem_cons.mpr ⟨k_125_37, List.forall_mem_cons.mpr ⟨k_125_38, List.forall_mem_cons.mpr ⟨k_125_39, List.forall_mem_cons.mpr ⟨k_125_42, List.forall_mem_cons.mpr ⟨k_125_43, List.forall_mem_cons.mpr ⟨k_125_44, List.forall_mem_cons.mpr ⟨k_125_47, List.forall_mem_cons.mpr ⟨k_125_48, fun _ h => absurd h List.not_mem_nil⟩⟩⟩⟩⟩⟩⟩⟩
def B125_4 : List (Nat × aO) := [(49, oB2 b_icmp_ge q_ge 78 52), (52, oLI 2 53), (53, oS (gKo (.int (-1))) 54), (54, oB2 b_icmp_eq q_eq 66 57), (57, oLA 0 58), (58, oLI 3 59), (59, oLI 2 60), (60, oCV 5 124 2)]
theorem B125_4_ok : ∀ q ∈ B125_4, Ok M125 q.1 q.2 := List.forall_mem_cons.mpr ⟨k_125_49, List.forall_mem_cons.mpr ⟨k_125_52, List.forall_mem_cons.mpr ⟨k_125_53, List.forall_mem_cons.mpr ⟨k_125_54, List.forall_mem_cons.mpr ⟨k_125_57, List.forall_mem_cons.mpr ⟨k_125_58, List.forall_mem_cons.mpr ⟨k_125_59, List.forall_mem_cons.mpr ⟨k_125_60, fun _ h => absurd h List.not_mem_nil⟩⟩⟩⟩⟩⟩⟩⟩
def B125_5 : List (Nat × aO) := [(63, oB1 b_if_eq q_eq 70 66), (66, oLI 3 67), (67, oGo 71), (70, oLI 2 71), (71, oSI 2 4 72), (72, oInc 3 1 4 75), (75, oGo 32), (78, oLA 0 79)]
theorem B125_5_ok : ∀ q ∈ B125_5, Ok M125 q.1 q.2 := List.forall_mem_cons.mpr ⟨k_125_63, List.forall_mem_cons.mpr ⟨k_125_66, List.forall_mem_cons.mpr ⟨k_125_67, List.forall_mem_cons.mpr ⟨k_125_70, List.forall_mem_cons.mpr ⟨k_125_71, List.forall_mem_cons.mpr ⟨k_125_72, List.forall_mem_cons.mpr ⟨k_125_75, List.forall_mem_cons.mpr ⟨k_125_78, fun _ h => absurd h List.not_mem_nil⟩⟩⟩⟩⟩⟩⟩⟩
def B125_6 : List (Nat × aO) := [(79, oGe 5 12 82), (82, oLI 1 83), (83, oLI 2 84), (84, oAT 85), (85, oLA 0 86), (86, oGe 5 13 89), (89, oLI 2 90), (90, oS (gKo (.int (-1))) 91)]
theorem B125_6_ok : ∀ q ∈ B125_6, Ok M125 q.1 q.2 := List.forall_mem_cons.mpr ⟨k_125_79, List.forall_mem_cons.mpr ⟨k_125_82, List.forall_mem_cons.mpr ⟨k_125_83, List.forall_mem_cons.mpr ⟨k_125_84, List.forall_mem_cons.mpr ⟨k_125_85, List.forall_mem_cons.mpr ⟨k_125_86, List.forall_mem_cons.mpr ⟨k_125_89, List.forall_mem_cons.mpr ⟨k_125_90, fun _ h => absurd h List.not_mem_nil⟩⟩⟩⟩⟩⟩⟩⟩
def B125_7 : List (Nat × aO) := [(91, oB2 b_icmp_ne q_ne 98 94), (94, oS (gKo (.int 0)) 95), (95, oGo 99), (98, oLI 2 99), (99, oS gD2 100), (100, oAI 101), (101, oS (gKo (.int 1)) 102), (102, oS (gI2 f_iadd) 103)]
theorem B125_7_ok : ∀ q ∈ B125_7, Ok M125 q.1 q.2 := List.forall_mem_cons.mpr ⟨k_125_91, List.forall_mem_cons.mpr ⟨k_125_94, List.forall_mem_cons.mpr ⟨k_125_95, List.forall_mem_cons.mpr ⟨k_125_98, List.forall_mem_cons.mpr ⟨k_125_99, List.forall_mem_cons.mpr ⟨k_125_100, List.forall_mem_cons.mpr ⟨k_125_101, List.forall_mem_cons.mpr ⟨k_125_102, fun _ h => absurd h List.not_mem_nil⟩⟩⟩⟩⟩⟩⟩⟩
def B125_8 : List (Nat × aO) := [(103, oAT 104), (104, oInc 1 1 4 107), (107, oGo 22), (110, oRV)]
theorem B125_8_ok : ∀ q ∈ B125_8, Ok M125 q.1 q.2 := List.forall_mem_cons.mpr ⟨k_125_103, List.forall_mem_cons.mpr ⟨k_125_104, List.forall_mem_cons.mpr ⟨k_125_107, List.forall_mem_cons.mpr ⟨k_125_110, fun _ h => absurd h List.not_mem_nil⟩⟩⟩⟩
def P125 : List (Nat × List (Nat × aO)) := [(11, B125_0), (23, B125_1), (34, B125_2), (48, B125_3), (60, B125_4), (78, B125_5), (90, B125_6), (102, B125_7), (110, B125_8)]
theorem P125_ok : ∀ b ∈ P125, ∀ q ∈ b.2, Ok M125 q.1 q.2 := List.forall_mem_cons.mpr ⟨B125_0_ok, List.forall_mem_cons.mpr ⟨B125_1_ok, List.forall_mem_cons.mpr ⟨B125_2_ok, List.forall_mem_cons.mpr ⟨B125_3_ok, List.forall_mem_cons.mpr ⟨B125_4_ok, List.forall_mem_cons.mpr ⟨B125_5_ok, List.forall_mem_cons.mpr ⟨B125_6_ok, List.forall_mem_cons.mpr ⟨B125_7_ok, List.forall_mem_cons.mpr ⟨B125_8_ok, fun _ h => absurd h List.not_mem_nil⟩⟩⟩⟩⟩⟩⟩⟩⟩
theorem k_126_0 : Ok M126 0 (oLA 0 1) := r_aload_n (j := 0) (by decide +kernel) rfl
theorem k_126_1 : Ok M126 1 (oCV 5 125 0) := r_callV (idx := 149) (by decide +kernel) w_840 cv_125
theorem k_126_4 : Ok M126 4 (oLI 1 5) := r_iload_n (j := 1) (by decide +kernel) rfl
theorem k_126_5 : Ok M126 5 (oS (gKo (.int 6)) 7) := r_bipush (n := 6) (by decide +kernel) (by decide +kernel)
theorem k_126_7 : Ok M126 7 (oB2 b_icmp_ge q_ge 19 10) := r_icmp_ge (off := 12) (by decide +kernel) (by decide +kernel)
theorem k_126_10 : Ok M126 10 (oLA 0 11) := r_aload_n (j := 0) (by decide +kernel) rfl
theorem k_126_11 : Ok M126 11 (oGe 5 12 14) := r_get (idx := 22) (by decide +kernel) cd_5 12 (by decide) w_690 rfl
theorem k_126_14 : Ok M126 14 (oLI 1 15) := r_iload_n (j := 1) (by decide +kernel) rfl
theorem k_126_15 : Ok M126 15 (oAI 16) := r_iaload (by decide +kernel)
theorem k_126_16 : Ok M126 16 (oGo 20) := r_goto (off := 4) (by decide +kernel) (by decide +kernel)
theorem k_126_19 : Ok M126 19 (oS (gKo (.int (-1))) 20) := r_iconst (n := (-1)) (by decide +kernel) (by decide +kernel)
theorem k_126_20 : Ok M126 20 (oRI) := r_ireturn rfl (by decide +kernel)
def B126_0 : List (Nat × aO) := [(0, oLA 0 1), (1, oCV 5 125 0), (4, oLI 1 5), (5, oS (gKo (.int 6)) 7), (7, oB2 b_icmp_ge q_ge 19 10), (10, oLA 0 11), (11, oGe 5 12 14), (14, oLI 1 15)]
theorem B126_0_ok : ∀ q ∈ B126_0, Ok M126 q.1 q.2 := List.forall_mem_cons.mpr ⟨k_126_0, List.forall_mem_cons.mpr ⟨k_126_1, List.forall_mem_cons.mpr ⟨k_126_4, List.forall_mem_cons.mpr ⟨k_126_5, List.forall_mem_cons.mpr ⟨k_126_7, List.forall_mem_cons.mpr ⟨k_126_10, List.forall_mem_cons.mpr ⟨k_126_11, List.forall_mem_cons.mpr ⟨k_126_14, fun _ h => absurd h List.not_mem_nil⟩⟩⟩⟩⟩⟩⟩⟩
def B126_1 : List (Nat × aO) := [(15, oAI 16), (16, oGo 20), (19, oS (gKo (.int (-1))) 20), (20, oRI)]
theorem B126_1_ok : ∀ q ∈ B126_1, Ok M126 q.1 q.2 := List.forall_mem_cons.mpr ⟨k_126_15, List.forall_mem_cons.mpr ⟨k_126_16, List.forall_mem_cons.mpr ⟨k_126_19, List.forall_mem_cons.mpr ⟨k_126_20, fun _ h => absurd h List.not_mem_nil⟩⟩⟩⟩
def P126 : List (Nat × List (Nat × aO)) := [(14, B126_0), (20, B126_1)]
theorem P126_ok : ∀ b ∈ P126, ∀ q ∈ b.2, Ok M126 q.1 q.2 := List.forall_mem_cons.mpr ⟨B126_0_ok, List.forall_mem_cons.mpr ⟨B126_1_ok, fun _ h => absurd h List.not_mem_nil⟩⟩
theorem k_127_0 : Ok M127 0 (oLI 1 1) := r_iload_n (j := 1) (by decide +kernel) rfl
theorem k_127_1 : Ok M127 1 (oB1 b_if_ge q_ge 13 4) := r_if_ge (off := 12) (by decide +kernel) (by decide +kernel)
theorem k_127_4 : Ok M127 4 (oLA 0 5) := r_aload_n (j := 0) (by decide +kernel) rfl
theorem k_127_5 : Ok M127 5 (oS (gKo (.int (-2))) 7) := r_bipush (n := (-2)) (by decide +kernel) (by decide +kernel)
theorem k_127_7 : Ok M127 7 (oCV 5 99 1) := r_callV (idx := 54) (by decide +kernel) w_747 cv_99
theorem k_127_10 : Ok M127 10 (oGo 18) := r_goto (off := 8) (by decide +kernel) (by decide +kernel)
theorem k_127_13 : Ok M127 13 (oLA 0 14) := r_aload_n (j := 0) (by decide +kernel) rfl
theorem k_127_14 : Ok M127 14 (oLI 1 15) := r_iload_n (j := 1) (by decide +kernel) rfl
theorem k_127_15 : Ok M127 15 (oCV 5 126 1) := r_callV (idx := 152) (by decide +kernel) w_836 cv_126
theorem k_127_18 : Ok M127 18 (oRI) := r_ireturn rfl (by decide +kernel)
def B127_0 : List (Nat × aO) := [(0, oLI 1 1), (1, oB1 b_if_ge q_ge 13 4), (4, oLA 0 5), (5, oS (gKo (.int (-2))) 7), (7, oCV 5 99 1), (10, oGo 18), (13, oLA 0 14), (14, oLI 1 15)]
theorem B127_0_ok : ∀ q ∈ B127_0, Ok M127 q.1 q.2 := List.forall_mem_cons.mpr ⟨k_127_0, List.forall_mem_cons.mpr ⟨k_127_1, List.forall_mem_cons.mpr ⟨k_127_4, List.forall_mem_cons.mpr ⟨k_127_5, List.forall_mem_cons.mpr ⟨k_127_7, List.forall_mem_cons.mpr ⟨k_127_10, List.forall_mem_cons.mpr ⟨k_127_13, List.forall_mem_cons.mpr ⟨k_127_14, fun _ h => absurd h List.not_mem_nil⟩⟩⟩⟩⟩⟩⟩⟩
def B127_1 : List (Nat × aO) := [(15, oCV 5 126 1), (18, oRI)]
theorem B127_1_ok : ∀ q ∈ B127_1, Ok M127 q.1 q.2 := List.forall_mem_cons.mpr ⟨k_127_15, List.forall_mem_cons.mpr ⟨k_127_18, fun _ h => absurd h List.not_mem_nil⟩⟩
def P127 : List (Nat × List (Nat × aO)) := [(14, B127_0), (18, B127_1)]
theorem P127_ok : ∀ b ∈ P127, ∀ q ∈ b.2, Ok M127 q.1 q.2 := List.forall_mem_cons.mpr ⟨B127_0_ok, List.forall_mem_cons.mpr ⟨B127_1_ok, fun _ h => absurd h List.not_mem_nil⟩⟩
theorem k_128_0 : Ok M128 0 (oLA 0 1) := r_aload_n (j := 0) (by decide +kernel) rfl
theorem k_128_1 : Ok M128 1 (oCV 5 125 0) := r_callV (idx := 149) (by decide +kernel) w_840 cv_125
theorem k_128_4 : Ok M128 4 (oS (gKo (.int 0)) 5) := r_iconst (n := 0) (by decide +kernel) (by decide +kernel)
theorem k_128_5 : Ok M128 5 (oSI 3 5 6) := r_istore_n (j := 3) (by decide +kernel) rfl
theorem k_128_6 : Ok M128 6 (oS (gKo (.int 0)) 7) := r_iconst (n := 0) (by decide +kernel) (by decide +kernel)
theorem k_128_7 : Ok M128 7 (oSI 4 5 9) := r_istore (by decide +kernel)
theorem k_128_9 : Ok M128 9 (oLI 4 11) := r_iload (by decide +kernel)
theorem k_128_11 : Ok M128 11 (oLI 2 12) := r_iload_n (j := 2) (by decide +kernel) rfl
theorem k_128_12 : Ok M128 12 (oB2 b_icmp_ge q_ge 40 15) := r_icmp_ge (off := 28) (by decide +kernel) (by decide +kernel)
theorem k_128_15 : Ok M128 15 (oLI 3 16) := r_iload_n (j := 3) (by decide +kernel) rfl
theorem k_128_16 : Ok M128 16 (oLA 0 17) := r_aload_n (j := 0) (by decide +kernel) rfl
theorem k_128_17 : Ok M128 17 (oGe 5 12 20) := r_get (idx := 22) (by decide +kernel) cd_5 12 (by decide) w_690 rfl
theorem k_128_20 : Ok M128 20 (oLI 4 22) := r_iload (by decide +kernel)
theorem k_128_22 : Ok M128 22 (oAI 23) := r_iaload (by decide +kernel)
theorem k_128_23 : Ok M128 23 (oLI 1 24) := r_iload_n (j := 1) (by decide +kernel) rfl
theorem k_128_24 : Ok M128 24 (oB2 b_icmp_ne q_ne 31 27) := r_icmp_ne (off := 7) (by decide +kernel) (by decide +kernel)
theorem k_128_27 : Ok M128 27 (oS (gKo (.int 1)) 28) := r_iconst (n := 1) (by decide +kernel) (by decide +kernel)
theorem k_128_28 : Ok M128 28 (oGo 32) := r_goto (off := 4) (by decide +kernel) (by decide +kernel)
theorem k_128_31 : Ok M128 31 (oS (gKo (.int 0)) 32) := r_iconst (n := 0) (by decide +kernel) (by decide +kernel)
theorem k_128_32 : Ok M128 32 (oS (gI2 f_iadd) 33) := r_iadd (by decide +kernel)
theorem k_128_33 : Ok M128 33 (oSI 3 5 34) := r_istore_n (j := 3) (by decide +kernel) rfl
theorem k_128_34 : Ok M128 34 (oInc 4 1 5 37) := r_iinc (n := 1) (by decide +kernel) (by decide +kernel)
theorem k_128_37 : Ok M128 37 (oGo 9) := r_goto (off := (-28)) (by decide +kernel) (by decide +kernel)
theorem k_128_40 : Ok M128 40 (oLI 3 41) := r_iload_n (j := 3) (by decide +kernel) rfl
theorem k_128_41 : Ok M128 41 (oRI) := r_ireturn rfl (by decide +kernel)
def B128_0 : List (Nat × aO) := [(0, oLA 0 1), (1, oCV 5 125 0), (4, oS (gKo (.int 0)) 5), (5, oSI 3 5 6), (6, oS (gKo (.int 0)) 7), (7, oSI 4 5 9), (9, oLI 4 11), (11, oLI 2 12)]
theorem B128_0_ok : ∀ q ∈ B128_0, Ok M128 q.1 q.2 := List.forall_mem_cons.mpr ⟨k_128_0, List.forall_mem_cons.mpr ⟨k_128_1, List.forall_mem_cons.mpr ⟨k_128_4, List.forall_mem_cons.mpr ⟨k_128_5, List.forall_mem_cons.mpr ⟨k_128_6, List.forall_mem_cons.mpr ⟨k_128_7, List.forall_mem_cons.mpr ⟨k_128_9, List.forall_mem_cons.mpr ⟨k_128_11, fun _ h => absurd h List.not_mem_nil⟩⟩⟩⟩⟩⟩⟩⟩
def B128_1 : List (Nat × aO) := [(12, oB2 b_icmp_ge q_ge 40 15), (15, oLI 3 16), (16, oLA 0 17), (17, oGe 5 12 20), (20, oLI 4 22), (22, oAI 23), (23, oLI 1 24), (24, oB2 b_icmp_ne q_ne 31 27)]
theorem B128_1_ok : ∀ q ∈ B128_1, Ok M128 q.1 q.2 := List.forall_mem_cons.mpr ⟨k_128_12, List.forall_mem_cons.mpr ⟨k_128_15, List.forall_mem_cons.mpr ⟨k_128_16, List.forall_mem_cons.mpr ⟨k_128_17, List.forall_mem_cons.mpr ⟨k_128_20, List.forall_mem_cons.mpr ⟨k_128_22, List.forall_mem_cons.mpr ⟨k_128_23, List.forall_mem_cons.mpr ⟨k_128_24, fun _ h => absurd h List.not_mem_nil⟩⟩⟩⟩⟩⟩⟩⟩
def B128_2 : List (Nat × aO) := [(27, oS (gKo (.int 1)) 28), (28, oGo 32), (31, oS (gKo (.int 0)) 32), (32, oS (gI2 f_iadd) 33), (33, oSI 3 5 34), (34, oInc 4 1 5 37), (37, oGo 9), (40, oLI 3 41)]
theorem B128_2_ok : ∀ q ∈ B128_2, Ok M128 q.1 q.2 := List.forall_mem_cons.mpr ⟨k_128_27, List.forall_mem_cons.mpr ⟨k_128_28, List.forall_mem_cons.mpr ⟨k_128_31, List.forall_mem_cons.mpr ⟨k_128_32, List.forall_mem_cons.mpr ⟨k_128_33, List.forall_mem_cons.mpr ⟨k_128_34, List.forall_mem_cons.mpr ⟨k_128_37, List.forall_mem_cons.mpr ⟨k_128_40, fun _ h => absurd h List.not_mem_nil⟩⟩⟩⟩⟩⟩⟩⟩
def B128_3 : List (Nat × aO) := [(41, oRI)]
theorem B128_3_ok : ∀ q ∈ B128_3, Ok M128 q.1 q.2 := List.forall_mem_cons.mpr ⟨k_128_41, fun _ h => absurd h List.not_mem_nil⟩
def P128 : List (Nat × List (Nat × aO)) := [(11, B128_0), (24, B128_1), (40, B128_2), (41, B128_3)]
theorem P128_ok : ∀ b ∈ P128, ∀ q ∈ b.2, Ok M128 q.1 q.2 := List.forall_mem_cons.mpr ⟨B128_0_ok, List.forall_mem_cons.mpr ⟨B128_1_ok, List.forall_mem_cons.mpr ⟨B128_2_ok, List.forall_mem_cons.mpr ⟨B128_3_ok, fun _ h => absurd h List.not_mem_nil⟩⟩⟩⟩
theorem k_129_0 : Ok M129 0 (oS (gKo (.int 0)) 1) := r_iconst (n := 0) (by decide +kernel) (by decide +kernel)
theorem k_129_1 : Ok M129 1 (oSI 2 4 2) := r_istore_n (j := 2) (by decide +kernel) rfl
theorem k_129_2 : Ok M129 2 (oS (gKo (.int 0)) 3) := r_iconst (n := 0) (by decide +kernel) (by decide +kernel)
theorem k_129_3 : Ok M129 3 (oSI 3 4 4) := r_istore_n (j := 3) (by decide +kernel) rfl
theorem k_129_4 : Ok M129 4 (oLI 3 5) := r_iload_n (j := 3) (by decide +kernel) rfl
theorem k_129_5 : Ok M129 5 (oLA 0 6) := r_aload_n (j := 0) (by decide +kernel) rfl
theorem k_129_6 : Ok M129 6 (oGe 5 0 9) := r_get (idx := 7) (by decide +kernel) cd_5 0 (by decide) w_678 rfl
theorem k_129_9 : Ok M129 9 (oS (gKo (.int 0)) 10) := r_iconst (n := 0) (by decide +kernel) (by decide +kernel)
theorem k_129_10 : Ok M129 10 (oAI 11) := r_iaload (by decide +kernel)
theorem k_129_11 : Ok M129 11 (oB2 b_icmp_ge q_ge 46 14) := r_icmp_ge (off := 35) (by decide +kernel) (by decide +kernel)
theorem k_129_14 : Ok M129 14 (oLI 2 15) := r_iload_n (j := 2) (by decide +kernel) rfl
theorem k_129_15 : Ok M129 15 (oLA 0 16) := r_aload_n (j := 0) (by decide +kernel) rfl
theorem k_129_16 : Ok M129 16 (oGe 5 0 19) := r_get (idx := 7) (by decide +kernel) cd_5 0 (by decide) w_678 rfl
theorem k_129_19 : Ok M129 19 (oS (gKo (.int 15)) 21) := r_bipush (n := 15) (by decide +kernel) (by decide +kernel)
theorem k_129_21 : Ok M129 21 (oLI 3 22) := r_iload_n (j := 3) (by decide +kernel) rfl
theorem k_129_22 : Ok M129 22 (oS (gI2 f_iadd) 23) := r_iadd (by decide +kernel)
theorem k_129_23 : Ok M129 23 (oAI 24) := r_iaload (by decide +kernel)
theorem k_129_24 : Ok M129 24 (oLI 1 25) := r_iload_n (j := 1) (by decide +kernel) rfl
theorem k_129_25 : Ok M129 25 (oB2 b_icmp_ne q_ne 37 28) := r_icmp_ne (off := 12) (by decide +kernel) (by decide +kernel)
theorem k_129_28 : Ok M129 28 (oLA 0 29) := r_aload_n (j := 0) (by decide +kernel) rfl
theorem k_129_29 : Ok M129 29 (oLI 1 30) := r_iload_n (j := 1) (by decide +kernel) rfl
theorem k_129_30 : Ok M129 30 (oLI 3 31) := r_iload_n (j := 3) (by decide +kernel) rfl
theorem k_129_31 : Ok M129 31 (oCV 5 104 2) := r_callV (idx := 155) (by decide +kernel) w_885 cv_104
theorem k_129_34 : Ok M129 34 (oGo 38) := r_goto (off := 4) (by decide +kernel) (by decide +kernel)
theorem k_129_37 : Ok M129 37 (oS (gKo (.int 0)) 38) := r_iconst (n := 0) (by decide +kernel) (by decide +kernel)
theorem k_129_38 : Ok M129 38 (oS (gI2 f_iadd) 39) := r_iadd (by decide +kernel)
theorem k_129_39 : Ok M129 39 (oSI 2 4 40) := r_istore_n (j := 2) (by decide +kernel) rfl
theorem k_129_40 : Ok M129 40 (oInc 3 1 4 43) := r_iinc (n := 1) (by decide +kernel) (by decide +kernel)
theorem k_129_43 : Ok M129 43 (oGo 4) := r_goto (off := (-39)) (by decide +kernel) (by decide +kernel)
theorem k_129_46 : Ok M129 46 (oLI 2 47) := r_iload_n (j := 2) (by decide +kernel) rfl
theorem k_129_47 : Ok M129 47 (oRI) := r_ireturn rfl (by decide +kernel)
def B129_0 : List (Nat × aO) := [(0, oS (gKo (.int 0)) 1), (1, oSI 2 4 2), (2, oS (gKo (.int 0)) 3), (3, oSI 3 4 4), (4, oLI 3 5), (5, oLA 0 6), (6, oGe 5 0 9), (9, oS (gKo (.int 0)) 10)]
theorem B129_0_ok : ∀ q ∈ B129_0, Ok M129 q.1 q.2 := List.forall_mem_cons.mpr ⟨k_129_0, List.forall_mem_cons.mpr ⟨k_129_1, List.forall_mem_cons.mpr ⟨k_129_2, List.forall_mem_cons.mpr ⟨k_129_3, List.forall_mem_cons.mpr ⟨k_129_4, List.forall_mem_cons.mpr ⟨k_129_5, List.forall_mem_cons.mpr ⟨k_129_6, List.forall_mem_cons.mpr ⟨k_129_9, fun _ h => absurd h List.not_mem_nil⟩⟩⟩⟩⟩⟩⟩⟩
def B129_1 : List (Nat × aO) := [(10, oAI 11), (11, oB2 b_icmp_ge q_ge 46 14), (14, oLI 2 15), (15, oLA 0 16), (16, oGe 5 0 19), (19, oS (gKo (.int 15)) 21), (21, oLI 3 22), (22, oS (gI2 f_iadd) 23)]
theorem B129_1_ok : ∀ q ∈ B129_1, Ok M129 q.1 q.2 := List.forall_mem_cons.mpr ⟨k_129_10, List.forall_mem_cons.mpr ⟨k_129_11, List.forall_mem_cons.mpr ⟨k_129_14, List.forall_mem_cons.mpr ⟨k_129_15, List.forall_mem_cons.mpr ⟨k_129_16, List.forall_mem_cons.mpr ⟨k_129_19, List.forall_mem_cons.mpr ⟨k_129_21, List.forall_mem_cons.mpr ⟨k_129_22, fun _ h => absurd h List.not_mem_nil⟩⟩⟩⟩⟩⟩⟩⟩
def B129_2 : List (Nat × aO) := [(23, oAI 24), (24, oLI 1 25), (25, oB2 b_icmp_ne q_ne 37 28), (28, oLA 0 29), (29, oLI 1 30), (30, oLI 3 31), (31, oCV 5 104 2), (34, oGo 38)]
theorem B129_2_ok : ∀ q ∈ B129_2, Ok M129 q.1 q.2 := List.forall_mem_cons.mpr ⟨k_129_23, List.forall_mem_cons.mpr ⟨k_129_24, List.forall_mem_cons.mpr ⟨k_129_25, List.forall_mem_cons.mpr ⟨k_129_28, List.forall_mem_cons.mpr ⟨k_129_29, List.forall_mem_cons.mpr ⟨k_129_30, List.forall_mem_cons.mpr ⟨k_129_31, List.forall_mem_cons.mpr ⟨k_129_34, fun _ h => absurd h List.not_mem_nil⟩⟩⟩⟩⟩⟩⟩⟩
def B129_3 : List (Nat × aO) := [(37, oS (gKo (.int 0)) 38), (38, oS (gI2 f_iadd) 39), (39, oSI 2 4 40), (40, oInc 3 1 4 43), (43, oGo 4), (46, oLI 2 47), (47, oRI)]
theorem B129_3_ok : ∀ q ∈ B129_3, Ok M129 q.1 q.2 := List.forall_mem_cons.mpr ⟨k_129_37, List.forall_mem_cons.mpr ⟨k_129_38, List.forall_mem_cons.mpr ⟨k_129_39, List.forall_mem_cons.mpr ⟨k_129_40, List.forall_mem_cons.mpr ⟨k_129_43, List.forall_mem_cons.mpr ⟨k_129_46, List.forall_mem_cons.mpr ⟨k_129_47, fun _ h => absurd h List.not_mem_nil⟩⟩⟩⟩⟩⟩⟩
def P129 : List (Nat × List (Nat × aO)) := [(9, B129_0), (22, B129_1), (34, B129_2), (47, B129_3)]
theorem P129_ok : ∀ b ∈ P129, ∀ q ∈ b.2, Ok M129 q.1 q.2 := List.forall_mem_cons.mpr ⟨B129_0_ok, List.forall_mem_cons.mpr ⟨B129_1_ok, List.forall_mem_cons.mpr ⟨B129_2_ok, List.forall_mem_cons.mpr ⟨B129_3_ok, fun _ h => absurd h List.not_mem_nil⟩⟩⟩⟩
