theorem k_89_0 : Ok M89 0 (oK (.long 31) 3) := r_ldc2 (i := 241) (by decide +kernel) w_662
theorem k_89_3 : Ok M89 3 (oLL 0 4) := r_lload_n (j := 0) (by decide +kernel) rfl
theorem k_89_4 : Ok M89 4 (oS (gL2 f_lmul) 5) := r_lmul (by decide +kernel)
theorem k_89_5 : Ok M89 5 (oLI 2 6) := r_iload_n (j := 2) (by decide +kernel) rfl
theorem k_89_6 : Ok M89 6 (oS gIL 7) := r_i2l (by decide +kernel)
theorem k_89_7 : Ok M89 7 (oS (gL2 f_ladd) 8) := r_ladd (by decide +kernel)
theorem k_89_8 : Ok M89 8 (oRL) := r_lreturn rfl (by decide +kernel)
def B89_0 : List (Nat × aO) := [(0, oK (.long 31) 3), (3, oLL 0 4), (4, oS (gL2 f_lmul) 5), (5, oLI 2 6), (6, oS gIL 7), (7, oS (gL2 f_ladd) 8), (8, oRL)]
theorem B89_0_ok : ∀ q ∈ B89_0, Ok M89 q.1 q.2 := List.forall_mem_cons.mpr ⟨k_89_0, List.forall_mem_cons.mpr ⟨k_89_3, List.forall_mem_cons.mpr ⟨k_89_4, List.forall_mem_cons.mpr ⟨k_89_5, List.forall_mem_cons.mpr ⟨k_89_6, List.forall_mem_cons.mpr ⟨k_89_7, List.forall_mem_cons.mpr ⟨k_89_8, fun _ h => absurd h List.not_mem_nil⟩⟩⟩⟩⟩⟩⟩
def P89 : List (Nat × List (Nat × aO)) := [(8, B89_0)]
theorem P89_ok : ∀ b ∈ P89, ∀ q ∈ b.2, Ok M89 q.1 q.2 := List.forall_mem_cons.mpr ⟨B89_0_ok, fun _ h => absurd h List.not_mem_nil⟩
theorem k_90_0 : Ok M90 0 (oLA 0 1) := r_aload_n (j := 0) (by decide +kernel) rfl
theorem k_90_1 : Ok M90 1 (oLA 0 2) := r_aload_n (j := 0) (by decide +kernel) rfl
theorem k_90_2 : Ok M90 2 (oGe 4 5 5) := r_get (idx := 40) (by decide +kernel) cd_4 5 (by decide) w_283 rfl
theorem k_90_5 : Ok M90 5 (oK (.int 65535) 7) := r_ldc (i := 243) (by decide +kernel) w_248
theorem k_90_7 : Ok M90 7 (oB2 b_icmp_ge q_ge 19 10) := r_icmp_ge (off := 12) (by decide +kernel) (by decide +kernel)
theorem k_90_10 : Ok M90 10 (oLA 0 11) := r_aload_n (j := 0) (by decide +kernel) rfl
theorem k_90_11 : Ok M90 11 (oGe 4 5 14) := r_get (idx := 40) (by decide +kernel) cd_4 5 (by decide) w_283 rfl
theorem k_90_14 : Ok M90 14 (oS (gKo (.int 1)) 15) := r_iconst (n := 1) (by decide +kernel) (by decide +kernel)
theorem k_90_15 : Ok M90 15 (oS (gI2 f_iadd) 16) := r_iadd (by decide +kernel)
theorem k_90_16 : Ok M90 16 (oGo 20) := r_goto (off := 4) (by decide +kernel) (by decide +kernel)
theorem k_90_19 : Ok M90 19 (oS (gKo (.int 1)) 20) := r_iconst (n := 1) (by decide +kernel) (by decide +kernel)
theorem k_90_20 : Ok M90 20 (oPI 4 5 23) := r_putI (idx := 40) (by decide +kernel) cd_4 5 (by decide) w_283 rfl rfl (by decide +kernel)
theorem k_90_23 : Ok M90 23 (oLA 0 24) := r_aload_n (j := 0) (by decide +kernel) rfl
theorem k_90_24 : Ok M90 24 (oGe 4 1 27) := r_get (idx := 19) (by decide +kernel) cd_4 1 (by decide) w_279 rfl
theorem k_90_27 : Ok M90 27 (oLA 0 28) := r_aload_n (j := 0) (by decide +kernel) rfl
theorem k_90_28 : Ok M90 28 (oGe 4 5 31) := r_get (idx := 40) (by decide +kernel) cd_4 5 (by decide) w_283 rfl
theorem k_90_31 : Ok M90 31 (oCV 0 19 1) := r_callV (idx := 244) (by decide +kernel) w_249 cv_19
theorem k_90_34 : Ok M90 34 (oRV) := r_return rfl (by decide +kernel)
def B90_0 : List (Nat × aO) := [(0, oLA 0 1), (1, oLA 0 2), (2, oGe 4 5 5), (5, oK (.int 65535) 7), (7, oB2 b_icmp_ge q_ge 19 10), (10, oLA 0 11), (11, oGe 4 5 14), (14, oS (gKo (.int 1)) 15)]
theorem B90_0_ok : ∀ q ∈ B90_0, Ok M90 q.1 q.2 := List.forall_mem_cons.mpr ⟨k_90_0, List.forall_mem_cons.mpr ⟨k_90_1, List.forall_mem_cons.mpr ⟨k_90_2, List.forall_mem_cons.mpr ⟨k_90_5, List.forall_mem_cons.mpr ⟨k_90_7, List.forall_mem_cons.mpr ⟨k_90_10, List.forall_mem_cons.mpr ⟨k_90_11, List.forall_mem_cons.mpr ⟨k_90_14, fun _ h => absurd h List.not_mem_nil⟩⟩⟩⟩⟩⟩⟩⟩
def B90_1 : List (Nat × aO) := [(15, oS (gI2 f_iadd) 16), (16, oGo 20), (19, oS (gKo (.int 1)) 20), (20, oPI 4 5 23), (23, oLA 0 24), (24, oGe 4 1 27), (27, oLA 0 28), (28, oGe 4 5 31)]
theorem B90_1_ok : ∀ q ∈ B90_1, Ok M90 q.1 q.2 := List.forall_mem_cons.mpr ⟨k_90_15, List.forall_mem_cons.mpr ⟨k_90_16, List.forall_mem_cons.mpr ⟨k_90_19, List.forall_mem_cons.mpr ⟨k_90_20, List.forall_mem_cons.mpr ⟨k_90_23, List.forall_mem_cons.mpr ⟨k_90_24, List.forall_mem_cons.mpr ⟨k_90_27, List.forall_mem_cons.mpr ⟨k_90_28, fun _ h => absurd h List.not_mem_nil⟩⟩⟩⟩⟩⟩⟩⟩
def B90_2 : List (Nat × aO) := [(31, oCV 0 19 1), (34, oRV)]
theorem B90_2_ok : ∀ q ∈ B90_2, Ok M90 q.1 q.2 := List.forall_mem_cons.mpr ⟨k_90_31, List.forall_mem_cons.mpr ⟨k_90_34, fun _ h => absurd h List.not_mem_nil⟩⟩
def P90 : List (Nat × List (Nat × aO)) := [(14, B90_0), (28, B90_1), (34, B90_2)]
theorem P90_ok : ∀ b ∈ P90, ∀ q ∈ b.2, Ok M90 q.1 q.2 := List.forall_mem_cons.mpr ⟨B90_0_ok, List.forall_mem_cons.mpr ⟨B90_1_ok, List.forall_mem_cons.mpr ⟨B90_2_ok, fun _ h => absurd h List.not_mem_nil⟩⟩⟩
theorem k_91_0 : Ok M91 0 (oLA 0 1) := r_aload_n (j := 0) (by decide +kernel) rfl
theorem k_91_1 : Ok M91 1 (oS gDu 2) := r_dup (by decide +kernel)
theorem k_91_2 : Ok M91 2 (oGe 4 6 5) := r_get (idx := 197) (by decide +kernel) cd_4 6 (by decide) w_284 rfl
theorem k_91_5 : Ok M91 5 (oS (gKo (.int 1)) 6) := r_iconst (n := 1) (by decide +kernel) (by decide +kernel)
theorem k_91_6 : Ok M91 6 (oS (gI2 f_iadd) 7) := r_iadd (by decide +kernel)
theorem k_91_7 : Ok M91 7 (oPI 4 6 10) := r_putI (idx := 197) (by decide +kernel) cd_4 6 (by decide) w_284 rfl rfl (by decide +kernel)
theorem k_91_10 : Ok M91 10 (oS (gKo (.int (-2))) 12) := r_bipush (n := (-2)) (by decide +kernel) (by decide +kernel)
theorem k_91_12 : Ok M91 12 (oRI) := r_ireturn rfl (by decide +kernel)
def B91_0 : List (Nat × aO) := [(0, oLA 0 1), (1, oS gDu 2), (2, oGe 4 6 5), (5, oS (gKo (.int 1)) 6), (6, oS (gI2 f_iadd) 7), (7, oPI 4 6 10), (10, oS (gKo (.int (-2))) 12), (12, oRI)]
theorem B91_0_ok : ∀ q ∈ B91_0, Ok M91 q.1 q.2 := List.forall_mem_cons.mpr ⟨k_91_0, List.forall_mem_cons.mpr ⟨k_91_1, List.forall_mem_cons.mpr ⟨k_91_2, List.forall_mem_cons.mpr ⟨k_91_5, List.forall_mem_cons.mpr ⟨k_91_6, List.forall_mem_cons.mpr ⟨k_91_7, List.forall_mem_cons.mpr ⟨k_91_10, List.forall_mem_cons.mpr ⟨k_91_12, fun _ h => absurd h List.not_mem_nil⟩⟩⟩⟩⟩⟩⟩⟩
def P91 : List (Nat × List (Nat × aO)) := [(12, B91_0)]
theorem P91_ok : ∀ b ∈ P91, ∀ q ∈ b.2, Ok M91 q.1 q.2 := List.forall_mem_cons.mpr ⟨B91_0_ok, fun _ h => absurd h List.not_mem_nil⟩
theorem k_92_0 : Ok M92 0 (oLA 0 1) := r_aload_n (j := 0) (by decide +kernel) rfl
theorem k_92_1 : Ok M92 1 (oS gDu 2) := r_dup (by decide +kernel)
theorem k_92_2 : Ok M92 2 (oGe 4 7 5) := r_get (idx := 200) (by decide +kernel) cd_4 7 (by decide) w_285 rfl
theorem k_92_5 : Ok M92 5 (oS (gKo (.int 1)) 6) := r_iconst (n := 1) (by decide +kernel) (by decide +kernel)
theorem k_92_6 : Ok M92 6 (oS (gI2 f_iadd) 7) := r_iadd (by decide +kernel)
theorem k_92_7 : Ok M92 7 (oPI 4 7 10) := r_putI (idx := 200) (by decide +kernel) cd_4 7 (by decide) w_285 rfl rfl (by decide +kernel)
theorem k_92_10 : Ok M92 10 (oS (gKo (.int (-3))) 12) := r_bipush (n := (-3)) (by decide +kernel) (by decide +kernel)
theorem k_92_12 : Ok M92 12 (oRI) := r_ireturn rfl (by decide +kernel)
def B92_0 : List (Nat × aO) := [(0, oLA 0 1), (1, oS gDu 2), (2, oGe 4 7 5), (5, oS (gKo (.int 1)) 6), (6, oS (gI2 f_iadd) 7), (7, oPI 4 7 10), (10, oS (gKo (.int (-3))) 12), (12, oRI)]
theorem B92_0_ok : ∀ q ∈ B92_0, Ok M92 q.1 q.2 := List.forall_mem_cons.mpr ⟨k_92_0, List.forall_mem_cons.mpr ⟨k_92_1, List.forall_mem_cons.mpr ⟨k_92_2, List.forall_mem_cons.mpr ⟨k_92_5, List.forall_mem_cons.mpr ⟨k_92_6, List.forall_mem_cons.mpr ⟨k_92_7, List.forall_mem_cons.mpr ⟨k_92_10, List.forall_mem_cons.mpr ⟨k_92_12, fun _ h => absurd h List.not_mem_nil⟩⟩⟩⟩⟩⟩⟩⟩
def P92 : List (Nat × List (Nat × aO)) := [(12, B92_0)]
theorem P92_ok : ∀ b ∈ P92, ∀ q ∈ b.2, Ok M92 q.1 q.2 := List.forall_mem_cons.mpr ⟨B92_0_ok, fun _ h => absurd h List.not_mem_nil⟩
theorem k_93_0 : Ok M93 0 (oLA 0 1) := r_aload_n (j := 0) (by decide +kernel) rfl
theorem k_93_1 : Ok M93 1 (oS gDu 2) := r_dup (by decide +kernel)
theorem k_93_2 : Ok M93 2 (oGe 4 8 5) := r_get (idx := 203) (by decide +kernel) cd_4 8 (by decide) w_286 rfl
theorem k_93_5 : Ok M93 5 (oS (gKo (.int 1)) 6) := r_iconst (n := 1) (by decide +kernel) (by decide +kernel)
theorem k_93_6 : Ok M93 6 (oS (gI2 f_iadd) 7) := r_iadd (by decide +kernel)
theorem k_93_7 : Ok M93 7 (oPI 4 8 10) := r_putI (idx := 203) (by decide +kernel) cd_4 8 (by decide) w_286 rfl rfl (by decide +kernel)
theorem k_93_10 : Ok M93 10 (oS (gKo (.int (-4))) 12) := r_bipush (n := (-4)) (by decide +kernel) (by decide +kernel)
theorem k_93_12 : Ok M93 12 (oRI) := r_ireturn rfl (by decide +kernel)
def B93_0 : List (Nat × aO) := [(0, oLA 0 1), (1, oS gDu 2), (2, oGe 4 8 5), (5, oS (gKo (.int 1)) 6), (6, oS (gI2 f_iadd) 7), (7, oPI 4 8 10), (10, oS (gKo (.int (-4))) 12), (12, oRI)]
theorem B93_0_ok : ∀ q ∈ B93_0, Ok M93 q.1 q.2 := List.forall_mem_cons.mpr ⟨k_93_0, List.forall_mem_cons.mpr ⟨k_93_1, List.forall_mem_cons.mpr ⟨k_93_2, List.forall_mem_cons.mpr ⟨k_93_5, List.forall_mem_cons.mpr ⟨k_93_6, List.forall_mem_cons.mpr ⟨k_93_7, List.forall_mem_cons.mpr ⟨k_93_10, List.forall_mem_cons.mpr ⟨k_93_12, fun _ h => absurd h List.not_mem_nil⟩⟩⟩⟩⟩⟩⟩⟩
def P93 : List (Nat × List (Nat × aO)) := [(12, B93_0)]
theorem P93_ok : ∀ b ∈ P93, ∀ q ∈ b.2, Ok M93 q.1 q.2 := List.forall_mem_cons.mpr ⟨B93_0_ok, fun _ h => absurd h List.not_mem_nil⟩
theorem k_94_0 : Ok M94 0 (oLI 0 1) := r_iload_n (j := 0) (by decide +kernel) rfl
theorem k_94_1 : Ok M94 1 (oLI 1 2) := r_iload_n (j := 1) (by decide +kernel) rfl
theorem k_94_2 : Ok M94 2 (oS (gI2 f_ishr) 3) := r_ishr (by decide +kernel)
theorem k_94_3 : Ok M94 3 (oS (gKo (.int 1)) 4) := r_iconst (n := 1) (by decide +kernel) (by decide +kernel)
theorem k_94_4 : Ok M94 4 (oS (gI2 f_iand) 5) := r_iand (by decide +kernel)
theorem k_94_5 : Ok M94 5 (oRI) := r_ireturn rfl (by decide +kernel)
def B94_0 : List (Nat × aO) := [(0, oLI 0 1), (1, oLI 1 2), (2, oS (gI2 f_ishr) 3), (3, oS (gKo (.int 1)) 4), (4, oS (gI2 f_iand) 5), (5, oRI)]
theorem B94_0_ok : ∀ q ∈ B94_0, Ok M94 q.1 q.2 := List.forall_mem_cons.mpr ⟨k_94_0, List.forall_mem_cons.mpr ⟨k_94_1, List.forall_mem_cons.mpr ⟨k_94_2, List.forall_mem_cons.mpr ⟨k_94_3, List.forall_mem_cons.mpr ⟨k_94_4, List.forall_mem_cons.mpr ⟨k_94_5, fun _ h => absurd h List.not_mem_nil⟩⟩⟩⟩⟩⟩
def P94 : List (Nat × List (Nat × aO)) := [(5, B94_0)]
theorem P94_ok : ∀ b ∈ P94, ∀ q ∈ b.2, Ok M94 q.1 q.2 := List.forall_mem_cons.mpr ⟨B94_0_ok, fun _ h => absurd h List.not_mem_nil⟩
theorem k_95_0 : Ok M95 0 (oLA 0 1) := r_aload_n (j := 0) (by decide +kernel) rfl
theorem k_95_1 : Ok M95 1 (oOb 4) := r_objInit (idx := 1) (by decide +kernel) w_677 w_86 w_oc
theorem k_95_4 : Ok M95 4 (oLA 0 5) := r_aload_n (j := 0) (by decide +kernel) rfl
theorem k_95_5 : Ok M95 5 (oS (gKo (.int 440)) 8) := r_sipush (n := 440) (by decide +kernel) (by decide +kernel)
theorem k_95_8 : Ok M95 8 (oNI 10) := r_newI (by decide +kernel) w_123
theorem k_95_10 : Ok M95 10 (oPR 5 0 13) := r_putR (idx := 7) (by decide +kernel) cd_5 0 (by decide) w_678 rfl rfl rfl rfl (.array .int) (by decide +kernel) (fun _ => ⟨rfl, rfl⟩)
theorem k_95_13 : Ok M95 13 (oLA 0 14) := r_aload_n (j := 0) (by decide +kernel) rfl
theorem k_95_14 : Ok M95 14 (oS (gKo (.int 3)) 15) := r_iconst (n := 3) (by decide +kernel) (by decide +kernel)
theorem k_95_15 : Ok M95 15 (oNI 17) := r_newI (by decide +kernel) w_123
theorem k_95_17 : Ok M95 17 (oPR 5 2 20) := r_putR (idx := 13) (by decide +kernel) cd_5 2 (by decide) w_680 rfl rfl rfl rfl (.array .int) (by decide +kernel) (fun _ => ⟨rfl, rfl⟩)
theorem k_95_20 : Ok M95 20 (oLA 0 21) := r_aload_n (j := 0) (by decide +kernel) rfl
theorem k_95_21 : Ok M95 21 (oS (gKo (.int 160)) 24) := r_sipush (n := 160) (by decide +kernel) (by decide +kernel)
theorem k_95_24 : Ok M95 24 (oNI 26) := r_newI (by decide +kernel) w_123
theorem k_95_26 : Ok M95 26 (oPR 5 3 29) := r_putR (idx := 16) (by decide +kernel) cd_5 3 (by decide) w_681 rfl rfl rfl rfl (.array .int) (by decide +kernel) (fun _ => ⟨rfl, rfl⟩)
theorem k_95_29 : Ok M95 29 (oLA 0 30) := r_aload_n (j := 0) (by decide +kernel) rfl
theorem k_95_30 : Ok M95 30 (oS (gKo (.int 4)) 31) := r_iconst (n := 4) (by decide +kernel) (by decide +kernel)
theorem k_95_31 : Ok M95 31 (oNI 33) := r_newI (by decide +kernel) w_123
theorem k_95_33 : Ok M95 33 (oS gDu 34) := r_dup (by decide +kernel)
theorem k_95_34 : Ok M95 34 (oS (gKo (.int 0)) 35) := r_iconst (n := 0) (by decide +kernel) (by decide +kernel)
theorem k_95_35 : Ok M95 35 (oS (gKo (.int (-1))) 36) := r_iconst (n := (-1)) (by decide +kernel) (by decide +kernel)
theorem k_95_36 : Ok M95 36 (oAT 37) := r_iastore (by decide +kernel)
theorem k_95_37 : Ok M95 37 (oS gDu 38) := r_dup (by decide +kernel)
theorem k_95_38 : Ok M95 38 (oS (gKo (.int 1)) 39) := r_iconst (n := 1) (by decide +kernel) (by decide +kernel)
theorem k_95_39 : Ok M95 39 (oS (gKo (.int (-1))) 40) := r_iconst (n := (-1)) (by decide +kernel) (by decide +kernel)
theorem k_95_40 : Ok M95 40 (oAT 41) := r_iastore (by decide +kernel)
theorem k_95_41 : Ok M95 41 (oS gDu 42) := r_dup (by decide +kernel)
theorem k_95_42 : Ok M95 42 (oS (gKo (.int 2)) 43) := r_iconst (n := 2) (by decide +kernel) (by decide +kernel)
theorem k_95_43 : Ok M95 43 (oS (gKo (.int (-1))) 44) := r_iconst (n := (-1)) (by decide +kernel) (by decide +kernel)
theorem k_95_44 : Ok M95 44 (oAT 45) := r_iastore (by decide +kernel)
theorem k_95_45 : Ok M95 45 (oS gDu 46) := r_dup (by decide +kernel)
theorem k_95_46 : Ok M95 46 (oS (gKo (.int 3)) 47) := r_iconst (n := 3) (by decide +kernel) (by decide +kernel)
theorem k_95_47 : Ok M95 47 (oS (gKo (.int (-1))) 48) := r_iconst (n := (-1)) (by decide +kernel) (by decide +kernel)
theorem k_95_48 : Ok M95 48 (oAT 49) := r_iastore (by decide +kernel)
theorem k_95_49 : Ok M95 49 (oPR 5 5 52) := r_putR (idx := 19) (by decide +kernel) cd_5 5 (by decide) w_683 rfl rfl rfl rfl (.array .int) (by decide +kernel) (fun _ => ⟨rfl, rfl⟩)
theorem k_95_52 : Ok M95 52 (oLA 0 53) := r_aload_n (j := 0) (by decide +kernel) rfl
theorem k_95_53 : Ok M95 53 (oS (gKo (.int 6)) 55) := r_bipush (n := 6) (by decide +kernel) (by decide +kernel)
theorem k_95_55 : Ok M95 55 (oNI 57) := r_newI (by decide +kernel) w_123
theorem k_95_57 : Ok M95 57 (oPR 5 12 60) := r_putR (idx := 22) (by decide +kernel) cd_5 12 (by decide) w_690 rfl rfl rfl rfl (.array .int) (by decide +kernel) (fun _ => ⟨rfl, rfl⟩)
theorem k_95_60 : Ok M95 60 (oLA 0 61) := r_aload_n (j := 0) (by decide +kernel) rfl
theorem k_95_61 : Ok M95 61 (oS (gKo (.int 4)) 62) := r_iconst (n := 4) (by decide +kernel) (by decide +kernel)
theorem k_95_62 : Ok M95 62 (oNI 64) := r_newI (by decide +kernel) w_123
theorem k_95_64 : Ok M95 64 (oPR 5 13 67) := r_putR (idx := 25) (by decide +kernel) cd_5 13 (by decide) w_691 rfl rfl rfl rfl (.array .int) (by decide +kernel) (fun _ => ⟨rfl, rfl⟩)
theorem k_95_67 : Ok M95 67 (oLA 0 68) := r_aload_n (j := 0) (by decide +kernel) rfl
theorem k_95_68 : Ok M95 68 (oS (gKo (.int 4096)) 71) := r_sipush (n := 4096) (by decide +kernel) (by decide +kernel)
theorem k_95_71 : Ok M95 71 (oNI 73) := r_newI (by decide +kernel) w_123
theorem k_95_73 : Ok M95 73 (oPR 5 14 76) := r_putR (idx := 28) (by decide +kernel) cd_5 14 (by decide) w_692 rfl rfl rfl rfl (.array .int) (by decide +kernel) (fun _ => ⟨rfl, rfl⟩)
theorem k_95_76 : Ok M95 76 (oLA 0 77) := r_aload_n (j := 0) (by decide +kernel) rfl
theorem k_95_77 : Ok M95 77 (oS (gKo (.int 4096)) 80) := r_sipush (n := 4096) (by decide +kernel) (by decide +kernel)
theorem k_95_80 : Ok M95 80 (oNI 82) := r_newI (by decide +kernel) w_123
theorem k_95_82 : Ok M95 82 (oPR 5 15 85) := r_putR (idx := 31) (by decide +kernel) cd_5 15 (by decide) w_693 rfl rfl rfl rfl (.array .int) (by decide +kernel) (fun _ => ⟨rfl, rfl⟩)
theorem k_95_85 : Ok M95 85 (oLA 0 86) := r_aload_n (j := 0) (by decide +kernel) rfl
theorem k_95_86 : Ok M95 86 (oS (gKo (.int 4)) 87) := r_iconst (n := 4) (by decide +kernel) (by decide +kernel)
theorem k_95_87 : Ok M95 87 (oNI 89) := r_newI (by decide +kernel) w_123
theorem k_95_89 : Ok M95 89 (oPR 5 16 92) := r_putR (idx := 34) (by decide +kernel) cd_5 16 (by decide) w_694 rfl rfl rfl rfl (.array .int) (by decide +kernel) (fun _ => ⟨rfl, rfl⟩)
theorem k_95_92 : Ok M95 92 (oLA 0 93) := r_aload_n (j := 0) (by decide +kernel) rfl
theorem k_95_93 : Ok M95 93 (oS (gKo (.int 4)) 94) := r_iconst (n := 4) (by decide +kernel) (by decide +kernel)
theorem k_95_94 : Ok M95 94 (oNI 96) := r_newI (by decide +kernel) w_123
theorem k_95_96 : Ok M95 96 (oPR 5 18 99) := r_putR (idx := 37) (by decide +kernel) cd_5 18 (by decide) w_696 rfl rfl rfl rfl (.array .int) (by decide +kernel) (fun _ => ⟨rfl, rfl⟩)
theorem k_95_99 : Ok M95 99 (oLA 0 100) := r_aload_n (j := 0) (by decide +kernel) rfl
theorem k_95_100 : Ok M95 100 (oGe 5 0 103) := r_get (idx := 7) (by decide +kernel) cd_5 0 (by decide) w_678 rfl
theorem k_95_103 : Ok M95 103 (oS (gKo (.int 5)) 104) := r_iconst (n := 5) (by decide +kernel) (by decide +kernel)
theorem k_95_104 : Ok M95 104 (oS (gKo (.int (-1))) 105) := r_iconst (n := (-1)) (by decide +kernel) (by decide +kernel)
theorem k_95_105 : Ok M95 105 (oAT 106) := r_iastore (by decide +kernel)
theorem k_95_106 : Ok M95 106 (oRV) := r_return rfl (by decide +kernel)
def B95_0 : List (Nat × aO) := [(0, oLA 0 1), (1, oOb 4), (4, oLA 0 5), (5, oS (gKo (.int 440)) 8), (8, oNI 10), (10, oPR 5 0 13), (13, oLA 0 14), (14, oS (gKo (.int 3)) 15)]
theorem B95_0_ok : ∀ q ∈ B95_0, Ok M95 q.1 q.2 := List.forall_mem_cons.mpr ⟨k_95_0, List.forall_mem_cons.mpr ⟨k_95_1, List.forall_mem_cons.mpr ⟨k_95_4, List.forall_mem_cons.mpr ⟨k_95_5, List.forall_mem_cons.mpr ⟨k_95_8, List.forall_mem_cons.mpr ⟨k_95_10, List.forall_mem_cons.mpr ⟨k_95_13, List.forall_mem_cons.mpr ⟨k_95_14, fun _ h => absurd h List.not_mem_nil⟩⟩⟩⟩⟩⟩⟩⟩
def B95_1 : List (Nat × aO) := [(15, oNI 17), (17, oPR 5 2 20), (20, oLA 0 21), (21, oS (gKo (.int 160)) 24), (24, oNI 26), (26, oPR 5 3 29), (29, oLA 0 30), (30, oS (gKo (.int 4)) 31)]
theorem B95_1_ok : ∀ q ∈ B95_1, Ok M95 q.1 q.2 := List.forall_mem_cons.mpr ⟨k_95_15, List.forall_mem_cons.mpr ⟨k_95_17, List.forall_mem_cons.mpr ⟨k_95_20, List.forall_mem_cons.mpr ⟨k_95_21, List.forall_mem_cons.mpr ⟨k_95_24, List.forall_mem_cons.mpr ⟨k_95_26, List.forall_mem_cons.mpr ⟨k_95_29, List.forall_mem_cons.mpr ⟨k_95_30, fun _ h => absurd h List.not_mem_nil⟩⟩⟩⟩⟩⟩⟩⟩
def B95_2 : List (Nat × aO) := [(31, oNI 33), (33, oS gDu 34), (34, oS (gKo (.int 0)) 35), (35, oS (gKo (.int (-1))) 36), (36, oAT 37), (37, oS gDu 38), (38, oS (gKo (.int 1)) 39), (39, oS (gKo (.int (-1))) 40)]
theorem B95_2_ok : ∀ q ∈ B95_2, Ok M95 q.1 q.2 := List.forall_mem_cons.mpr ⟨k_95_31, List.forall_mem_cons.mpr ⟨k_95_33, List.forall_mem_cons.mpr ⟨k_95_34, List.forall_mem_cons.mpr ⟨k_95_35, List.forall_mem_cons.mpr ⟨k_95_36, List.forall_mem_cons.mpr ⟨k_95_37, List.forall_mem_cons.mpr ⟨k_95_38, List.forall_mem_cons.mpr ⟨k_95_39, fun _ h => absurd h List.not_mem_nil⟩⟩⟩⟩⟩⟩⟩⟩
def B95_3 : List (Nat × aO) := [(40, oAT 41), (41, oS gDu 42), (42, oS (gKo (.int 2)) 43), (43, oS (gKo (.int (-1))) 44), (44, oAT 45), (45, oS gDu 46), (46, oS (gKo (.int 3)) 47), (47, oS (gKo (.int (-1))) 48)]
theorem B95_3_ok : ∀ q ∈ B95_3, Ok M95 q.1 q.2 := List.forall_mem_cons.mpr ⟨k_95_40, List.forall_mem_cons.mpr ⟨k_95_41, List.forall_mem_cons.mpr ⟨k_95_42, List.forall_mem_cons.mpr ⟨k_95_43, List.forall_mem_cons.mpr ⟨k_95_44, List.forall_mem_cons.mpr ⟨k_95_45, List.forall_mem_cons.mpr ⟨k_95_46, List.forall_mem_cons.mpr ⟨k_95_47, fun _ h => absurd h List.not_mem_nil⟩⟩⟩⟩⟩⟩⟩⟩
def B95_4 : List (Nat × aO) := [(48, oAT 49), (49, oPR 5 5 52), (52, oLA 0 53), (53, oS (gKo (.int 6)) 55), (55, oNI 57), (57, oPR 5 12 60), (60, oLA 0 61), (61, oS (gKo (.int 4)) 62)]
theorem B95_4_ok : ∀ q ∈ B95_4, Ok M95 q.1 q.2 := List.forall_mem_cons.mpr ⟨k_95_48, List.forall_mem_cons.mpr ⟨k_95_49, List.forall_mem_cons.mpr ⟨k_95_52, List.forall_mem_cons.mpr ⟨k_95_53, List.forall_mem_cons.mpr ⟨k_95_55, List.forall_mem_cons.mpr ⟨k_95_57, List.forall_mem_cons.mpr ⟨k_95_60, List.forall_mem_cons.mpr ⟨k_95_61, fun _ h => absurd h List.not_mem_nil⟩⟩⟩⟩⟩⟩⟩⟩
def B95_5 : List (Nat × aO) := [(62, oNI 64), (64, oPR 5 13 67), (67, oLA 0 68), (68, oS (gKo (.int 4096)) 71), (71, oNI 73), (73, oPR 5 14 76), (76, oLA 0 77), (77, oS (gKo (.int 4096)) 80)]
theorem B95_5_ok : ∀ q ∈ B95_5, Ok M95 q.1 q.2 := List.forall_mem_cons.mpr ⟨k_95_62, List.forall_mem_cons.mpr ⟨k_95_64, List.forall_mem_cons.mpr ⟨k_95_67, List.forall_mem_cons.mpr ⟨k_95_68, List.forall_mem_cons.mpr ⟨k_95_71, List.forall_mem_cons.mpr ⟨k_95_73, List.forall_mem_cons.mpr ⟨k_95_76, List.forall_mem_cons.mpr ⟨k_95_77, fun _ h => absurd h List.not_mem_nil⟩⟩⟩⟩⟩⟩⟩⟩
def B95_6 : List (Nat × aO) := [(80, oNI 82), (82, oPR 5 15 85), (85, oLA 0 86), (86, oS (gKo (.int 4)) 87), (87, oNI 89), (89, oPR 5 16 92), (92, oLA 0 93), (93, oS (gKo (.int 4)) 94)]
theorem B95_6_ok : ∀ q ∈ B95_6, Ok M95 q.1 q.2 := List.forall_mem_cons.mpr ⟨k_95_80, List.forall_mem_cons.mpr ⟨k_95_82, List.forall_mem_cons.mpr ⟨k_95_85, List.forall_mem_cons.mpr ⟨k_95_86, List.forall_mem_cons.mpr ⟨k_95_87, List.forall_mem_cons.mpr ⟨k_95_89, List.forall_mem_cons.mpr ⟨k_95_92, List.forall_mem_cons.mpr ⟨k_95_93, fun _ h => absurd h List.not_mem_nil⟩⟩⟩⟩⟩⟩⟩⟩
def B95_7 : List (Nat × aO) := [(94, oNI 96), (96, oPR 5 18 99), (99, oLA 0 100), (100, oGe 5 0 103), (103, oS (gKo (.int 5)) 104), (104, oS (gKo (.int (-1))) 105), (105, oAT 106), (106, oRV)]
theorem B95_7_ok : ∀ q ∈ B95_7, Ok M95 q.1 q.2 := List.forall_mem_cons.mpr ⟨k_95_94, List.forall_mem_cons.mpr ⟨k_95_96, List.forall_mem_cons.mpr ⟨k_95_99, List.forall_mem_cons.mpr ⟨k_95_100, List.forall_mem_cons.mpr ⟨k_95_103, List.forall_mem_cons.mpr ⟨k_95_104, List.forall_mem_cons.mpr ⟨k_95_105, List.forall_mem_cons.mpr ⟨k_95_106, fun _ h => absurd h List.not_mem_nil⟩⟩⟩⟩⟩⟩⟩⟩
def P95 : List (Nat × List (Nat × aO)) := [(14, B95_0), (30, B95_1), (39, B95_2), (47, B95_3), (61, B95_4), (77, B95_5), (93, B95_6), (106, B95_7)]
theorem P95_ok : ∀ b ∈ P95, ∀ q ∈ b.2, Ok M95 q.1 q.2 := List.forall_mem_cons.mpr ⟨B95_0_ok, List.forall_mem_cons.mpr ⟨B95_1_ok, List.forall_mem_cons.mpr ⟨B95_2_ok, List.forall_mem_cons.mpr ⟨B95_3_ok, List.forall_mem_cons.mpr ⟨B95_4_ok, List.forall_mem_cons.mpr ⟨B95_5_ok, List.forall_mem_cons.mpr ⟨B95_6_ok, List.forall_mem_cons.mpr ⟨B95_7_ok, fun _ h => absurd h List.not_mem_nil⟩⟩⟩⟩⟩⟩⟩⟩
theorem k_96_0 : Ok M96 0 (oLL 0 1) := r_lload_n (j := 0) (by decide +kernel) rfl
theorem k_96_1 : Ok M96 1 (oLL 2 2) := r_lload_n (j := 2) (by decide +kernel) rfl
theorem k_96_2 : Ok M96 2 (oS gCm 3) := r_lcmp (by decide +kernel)
theorem k_96_3 : Ok M96 3 (oB1 b_if_lt q_lt 17 6) := r_if_lt (off := 14) (by decide +kernel) (by decide +kernel)
theorem k_96_6 : Ok M96 6 (oLL 0 7) := r_lload_n (j := 0) (by decide +kernel) rfl
theorem k_96_7 : Ok M96 7 (oLL 4 9) := r_lload (by decide +kernel)
theorem k_96_9 : Ok M96 9 (oS gCm 10) := r_lcmp (by decide +kernel)
theorem k_96_10 : Ok M96 10 (oB1 b_if_gt q_gt 17 13) := r_if_gt (off := 7) (by decide +kernel) (by decide +kernel)
theorem k_96_13 : Ok M96 13 (oS (gKo (.int 1)) 14) := r_iconst (n := 1) (by decide +kernel) (by decide +kernel)
theorem k_96_14 : Ok M96 14 (oGo 18) := r_goto (off := 4) (by decide +kernel) (by decide +kernel)
theorem k_96_17 : Ok M96 17 (oS (gKo (.int 0)) 18) := r_iconst (n := 0) (by decide +kernel) (by decide +kernel)
theorem k_96_18 : Ok M96 18 (oRZ) := r_zreturn rfl (by decide +kernel)
def B96_0 : List (Nat × aO) := [(0, oLL 0 1), (1, oLL 2 2), (2, oS gCm 3), (3, oB1 b_if_lt q_lt 17 6), (6, oLL 0 7), (7, oLL 4 9), (9, oS gCm 10), (10, oB1 b_if_gt q_gt 17 13)]
theorem B96_0_ok : ∀ q ∈ B96_0, Ok M96 q.1 q.2 := List.forall_mem_cons.mpr ⟨k_96_0, List.forall_mem_cons.mpr ⟨k_96_1, List.forall_mem_cons.mpr ⟨k_96_2, List.forall_mem_cons.mpr ⟨k_96_3, List.forall_mem_cons.mpr ⟨k_96_6, List.forall_mem_cons.mpr ⟨k_96_7, List.forall_mem_cons.mpr ⟨k_96_9, List.forall_mem_cons.mpr ⟨k_96_10, fun _ h => absurd h List.not_mem_nil⟩⟩⟩⟩⟩⟩⟩⟩
def B96_1 : List (Nat × aO) := [(13, oS (gKo (.int 1)) 14), (14, oGo 18), (17, oS (gKo (.int 0)) 18), (18, oRZ)]
theorem B96_1_ok : ∀ q ∈ B96_1, Ok M96 q.1 q.2 := List.forall_mem_cons.mpr ⟨k_96_13, List.forall_mem_cons.mpr ⟨k_96_14, List.forall_mem_cons.mpr ⟨k_96_17, List.forall_mem_cons.mpr ⟨k_96_18, fun _ h => absurd h List.not_mem_nil⟩⟩⟩⟩
def P96 : List (Nat × List (Nat × aO)) := [(10, B96_0), (18, B96_1)]
theorem P96_ok : ∀ b ∈ P96, ∀ q ∈ b.2, Ok M96 q.1 q.2 := List.forall_mem_cons.mpr ⟨B96_0_ok, List.forall_mem_cons.mpr ⟨B96_1_ok, fun _ h => absurd h List.not_mem_nil⟩⟩
theorem k_97_0 : Ok M97 0 (oLI 0 1) := r_iload_n (j := 0) (by decide +kernel) rfl
theorem k_97_1 : Ok M97 1 (oLI 1 2) := r_iload_n (j := 1) (by decide +kernel) rfl
theorem k_97_2 : Ok M97 2 (oS (gI2 f_ishr) 3) := r_ishr (by decide +kernel)
theorem k_97_3 : Ok M97 3 (oS (gKo (.int 1)) 4) := r_iconst (n := 1) (by decide +kernel) (by decide +kernel)
theorem k_97_4 : Ok M97 4 (oS (gI2 f_iand) 5) := r_iand (by decide +kernel)
theorem k_97_5 : Ok M97 5 (oS (gKo (.int 1)) 6) := r_iconst (n := 1) (by decide +kernel) (by decide +kernel)
theorem k_97_6 : Ok M97 6 (oB2 b_icmp_ne q_ne 13 9) := r_icmp_ne (off := 7) (by decide +kernel) (by decide +kernel)
theorem k_97_9 : Ok M97 9 (oS (gKo (.int 1)) 10) := r_iconst (n := 1) (by decide +kernel) (by decide +kernel)
theorem k_97_10 : Ok M97 10 (oGo 14) := r_goto (off := 4) (by decide +kernel) (by decide +kernel)
theorem k_97_13 : Ok M97 13 (oS (gKo (.int 0)) 14) := r_iconst (n := 0) (by decide +kernel) (by decide +kernel)
theorem k_97_14 : Ok M97 14 (oRZ) := r_zreturn rfl (by decide +kernel)
def B97_0 : List (Nat × aO) := [(0, oLI 0 1), (1, oLI 1 2), (2, oS (gI2 f_ishr) 3), (3, oS (gKo (.int 1)) 4), (4, oS (gI2 f_iand) 5), (5, oS (gKo (.int 1)) 6), (6, oB2 b_icmp_ne q_ne 13 9), (9, oS (gKo (.int 1)) 10)]
theorem B97_0_ok : ∀ q ∈ B97_0, Ok M97 q.1 q.2 := List.forall_mem_cons.mpr ⟨k_97_0, List.forall_mem_cons.mpr ⟨k_97_1, List.forall_mem_cons.mpr ⟨k_97_2, List.forall_mem_cons.mpr ⟨k_97_3, List.forall_mem_cons.mpr ⟨k_97_4, List.forall_mem_cons.mpr ⟨k_97_5, List.forall_mem_cons.mpr ⟨k_97_6, List.forall_mem_cons.mpr ⟨k_97_9, fun _ h => absurd h List.not_mem_nil⟩⟩⟩⟩⟩⟩⟩⟩
def B97_1 : List (Nat × aO) := [(10, oGo 14), (13, oS (gKo (.int 0)) 14), (14, oRZ)]
theorem B97_1_ok : ∀ q ∈ B97_1, Ok M97 q.1 q.2 := List.forall_mem_cons.mpr ⟨k_97_10, List.forall_mem_cons.mpr ⟨k_97_13, List.forall_mem_cons.mpr ⟨k_97_14, fun _ h => absurd h List.not_mem_nil⟩⟩⟩
def P97 : List (Nat × List (Nat × aO)) := [(9, B97_0), (14, B97_1)]
theorem P97_ok : ∀ b ∈ P97, ∀ q ∈ b.2, Ok M97 q.1 q.2 := List.forall_mem_cons.mpr ⟨B97_0_ok, List.forall_mem_cons.mpr ⟨B97_1_ok, fun _ h => absurd h List.not_mem_nil⟩⟩
theorem k_98_0 : Ok M98 0 (oS (gKo (.int 0)) 1) := r_iconst (n := 0) (by decide +kernel) (by decide +kernel)
theorem k_98_1 : Ok M98 1 (oSI 1 3 2) := r_istore_n (j := 1) (by decide +kernel) rfl
theorem k_98_2 : Ok M98 2 (oS (gKo (.int 0)) 3) := r_iconst (n := 0) (by decide +kernel) (by decide +kernel)
theorem k_98_3 : Ok M98 3 (oSI 2 3 4) := r_istore_n (j := 2) (by decide +kernel) rfl
theorem k_98_4 : Ok M98 4 (oLI 2 5) := r_iload_n (j := 2) (by decide +kernel) rfl
theorem k_98_5 : Ok M98 5 (oS (gKo (.int 16)) 7) := r_bipush (n := 16) (by decide +kernel) (by decide +kernel)
theorem k_98_7 : Ok M98 7 (oB2 b_icmp_ge q_ge 24 10) := r_icmp_ge (off := 17) (by decide +kernel) (by decide +kernel)
theorem k_98_10 : Ok M98 10 (oLI 1 11) := r_iload_n (j := 1) (by decide +kernel) rfl
theorem k_98_11 : Ok M98 11 (oLI 0 12) := r_iload_n (j := 0) (by decide +kernel) rfl
theorem k_98_12 : Ok M98 12 (oLI 2 13) := r_iload_n (j := 2) (by decide +kernel) rfl
theorem k_98_13 : Ok M98 13 (oS (gI2 f_ishr) 14) := r_ishr (by decide +kernel)
theorem k_98_14 : Ok M98 14 (oS (gKo (.int 1)) 15) := r_iconst (n := 1) (by decide +kernel) (by decide +kernel)
theorem k_98_15 : Ok M98 15 (oS (gI2 f_iand) 16) := r_iand (by decide +kernel)
theorem k_98_16 : Ok M98 16 (oS (gI2 f_iadd) 17) := r_iadd (by decide +kernel)
theorem k_98_17 : Ok M98 17 (oSI 1 3 18) := r_istore_n (j := 1) (by decide +kernel) rfl
theorem k_98_18 : Ok M98 18 (oInc 2 1 3 21) := r_iinc (n := 1) (by decide +kernel) (by decide +kernel)
theorem k_98_21 : Ok M98 21 (oGo 4) := r_goto (off := (-17)) (by decide +kernel) (by decide +kernel)
theorem k_98_24 : Ok M98 24 (oLI 1 25) := r_iload_n (j := 1) (by decide +kernel) rfl
theorem k_98_25 : Ok M98 25 (oRI) := r_ireturn rfl (by decide +kernel)
def B98_0 : List (Nat × aO) := [(0, oS (gKo (.int 0)) 1), (1, oSI 1 3 2), (2, oS (gKo (.int 0)) 3), (3, oSI 2 3 4), (4, oLI 2 5), (5, oS (gKo (.int 16)) 7), (7, oB2 b_icmp_ge q_ge 24 10), (10, oLI 1 11)]
theorem B98_0_ok : ∀ q ∈ B98_0, Ok M98 q.1 q.2 := List.forall_mem_cons.mpr ⟨k_98_0, List.forall_mem_cons.mpr ⟨k_98_1, List.forall_mem_cons.mpr ⟨k_98_2, List.forall_mem_cons.mpr ⟨k_98_3, List.forall_mem_cons.mpr ⟨k_98_4, List.forall_mem_cons.mpr ⟨k_98_5, List.forall_mem_cons.mpr ⟨k_98_7, List.forall_mem_cons.mpr ⟨k_98_10, fun _ h => absurd h List.not_mem_nil⟩⟩⟩⟩⟩⟩⟩⟩
def B98_1 : List (Nat × aO) := [(11, oLI 0 12), (12, oLI 2 13), (13, oS (gI2 f_ishr) 14), (14, oS (gKo (.int 1)) 15), (15, oS (gI2 f_iand) 16), (16, oS (gI2 f_iadd) 17), (17, oSI 1 3 18), (18, oInc 2 1 3 21)]
theorem B98_1_ok : ∀ q ∈ B98_1, Ok M98 q.1 q.2 := List.forall_mem_cons.mpr ⟨k_98_11, List.forall_mem_cons.mpr ⟨k_98_12, List.forall_mem_cons.mpr ⟨k_98_13, List.forall_mem_cons.mpr ⟨k_98_14, List.forall_mem_cons.mpr ⟨k_98_15, List.forall_mem_cons.mpr ⟨k_98_16, List.forall_mem_cons.mpr ⟨k_98_17, List.forall_mem_cons.mpr ⟨k_98_18, fun _ h => absurd h List.not_mem_nil⟩⟩⟩⟩⟩⟩⟩⟩
def B98_2 : List (Nat × aO) := [(21, oGo 4), (24, oLI 1 25), (25, oRI)]
theorem B98_2_ok : ∀ q ∈ B98_2, Ok M98 q.1 q.2 := List.forall_mem_cons.mpr ⟨k_98_21, List.forall_mem_cons.mpr ⟨k_98_24, List.forall_mem_cons.mpr ⟨k_98_25, fun _ h => absurd h List.not_mem_nil⟩⟩⟩
def P98 : List (Nat × List (Nat × aO)) := [(10, B98_0), (18, B98_1), (25, B98_2)]
theorem P98_ok : ∀ b ∈ P98, ∀ q ∈ b.2, Ok M98 q.1 q.2 := List.forall_mem_cons.mpr ⟨B98_0_ok, List.forall_mem_cons.mpr ⟨B98_1_ok, List.forall_mem_cons.mpr ⟨B98_2_ok, fun _ h => absurd h List.not_mem_nil⟩⟩⟩
theorem k_99_0 : Ok M99 0 (oLA 0 1) := r_aload_n (j := 0) (by decide +kernel) rfl
theorem k_99_1 : Ok M99 1 (oGe 5 2 4) := r_get (idx := 13) (by decide +kernel) cd_5 2 (by decide) w_680 rfl
theorem k_99_4 : Ok M99 4 (oS (gKo (.int (-2))) 6) := r_bipush (n := (-2)) (by decide +kernel) (by decide +kernel)
theorem k_99_6 : Ok M99 6 (oLI 1 7) := r_iload_n (j := 1) (by decide +kernel) rfl
theorem k_99_7 : Ok M99 7 (oS (gI2 f_isub) 8) := r_isub (by decide +kernel)
theorem k_99_8 : Ok M99 8 (oS gD2 9) := r_dup2 (by decide +kernel)
theorem k_99_9 : Ok M99 9 (oAI 10) := r_iaload (by decide +kernel)
theorem k_99_10 : Ok M99 10 (oS (gKo (.int 1)) 11) := r_iconst (n := 1) (by decide +kernel) (by decide +kernel)
theorem k_99_11 : Ok M99 11 (oS (gI2 f_iadd) 12) := r_iadd (by decide +kernel)
theorem k_99_12 : Ok M99 12 (oAT 13) := r_iastore (by decide +kernel)
theorem k_99_13 : Ok M99 13 (oLI 1 14) := r_iload_n (j := 1) (by decide +kernel) rfl
theorem k_99_14 : Ok M99 14 (oRI) := r_ireturn rfl (by decide +kernel)
def B99_0 : List (Nat × aO) := [(0, oLA 0 1), (1, oGe 5 2 4), (4, oS (gKo (.int (-2))) 6), (6, oLI 1 7), (7, oS (gI2 f_isub) 8), (8, oS gD2 9), (9, oAI 10), (10, oS (gKo (.int 1)) 11)]
theorem B99_0_ok : ∀ q ∈ B99_0, Ok M99 q.1 q.2 := List.forall_mem_cons.mpr ⟨k_99_0, List.forall_mem_cons.mpr ⟨k_99_1, List.forall_mem_cons.mpr ⟨k_99_4, List.forall_mem_cons.mpr ⟨k_99_6, List.forall_mem_cons.mpr ⟨k_99_7, List.forall_mem_cons.mpr ⟨k_99_8, List.forall_mem_cons.mpr ⟨k_99_9, List.forall_mem_cons.mpr ⟨k_99_10, fun _ h => absurd h List.not_mem_nil⟩⟩⟩⟩⟩⟩⟩⟩
def B99_1 : List (Nat × aO) := [(11, oS (gI2 f_iadd) 12), (12, oAT 13), (13, oLI 1 14), (14, oRI)]
theorem B99_1_ok : ∀ q ∈ B99_1, Ok M99 q.1 q.2 := List.forall_mem_cons.mpr ⟨k_99_11, List.forall_mem_cons.mpr ⟨k_99_12, List.forall_mem_cons.mpr ⟨k_99_13, List.forall_mem_cons.mpr ⟨k_99_14, fun _ h => absurd h List.not_mem_nil⟩⟩⟩⟩
def P99 : List (Nat × List (Nat × aO)) := [(10, B99_0), (14, B99_1)]
theorem P99_ok : ∀ b ∈ P99, ∀ q ∈ b.2, Ok M99 q.1 q.2 := List.forall_mem_cons.mpr ⟨B99_0_ok, List.forall_mem_cons.mpr ⟨B99_1_ok, fun _ h => absurd h List.not_mem_nil⟩⟩
theorem k_100_0 : Ok M100 0 (oS (gKo (.int 0)) 1) := r_iconst (n := 0) (by decide +kernel) (by decide +kernel)
theorem k_100_1 : Ok M100 1 (oSI 3 4 2) := r_istore_n (j := 3) (by decide +kernel) rfl
theorem k_100_2 : Ok M100 2 (oLI 3 3) := r_iload_n (j := 3) (by decide +kernel) rfl
theorem k_100_3 : Ok M100 3 (oS (gKo (.int 55)) 5) := r_bipush (n := 55) (by decide +kernel) (by decide +kernel)
theorem k_100_5 : Ok M100 5 (oB2 b_icmp_ge q_ge 30 8) := r_icmp_ge (off := 25) (by decide +kernel) (by decide +kernel)
theorem k_100_8 : Ok M100 8 (oLA 0 9) := r_aload_n (j := 0) (by decide +kernel) rfl
theorem k_100_9 : Ok M100 9 (oGe 5 0 12) := r_get (idx := 7) (by decide +kernel) cd_5 0 (by decide) w_678 rfl
theorem k_100_12 : Ok M100 12 (oLI 2 13) := r_iload_n (j := 2) (by decide +kernel) rfl
theorem k_100_13 : Ok M100 13 (oLI 3 14) := r_iload_n (j := 3) (by decide +kernel) rfl
theorem k_100_14 : Ok M100 14 (oS (gI2 f_iadd) 15) := r_iadd (by decide +kernel)
theorem k_100_15 : Ok M100 15 (oLA 0 16) := r_aload_n (j := 0) (by decide +kernel) rfl
theorem k_100_16 : Ok M100 16 (oGe 5 0 19) := r_get (idx := 7) (by decide +kernel) cd_5 0 (by decide) w_678 rfl
theorem k_100_19 : Ok M100 19 (oLI 1 20) := r_iload_n (j := 1) (by decide +kernel) rfl
theorem k_100_20 : Ok M100 20 (oLI 3 21) := r_iload_n (j := 3) (by decide +kernel) rfl
theorem k_100_21 : Ok M100 21 (oS (gI2 f_iadd) 22) := r_iadd (by decide +kernel)
theorem k_100_22 : Ok M100 22 (oAI 23) := r_iaload (by decide +kernel)
theorem k_100_23 : Ok M100 23 (oAT 24) := r_iastore (by decide +kernel)
theorem k_100_24 : Ok M100 24 (oInc 3 1 4 27) := r_iinc (n := 1) (by decide +kernel) (by decide +kernel)
theorem k_100_27 : Ok M100 27 (oGo 2) := r_goto (off := (-25)) (by decide +kernel) (by decide +kernel)
theorem k_100_30 : Ok M100 30 (oRV) := r_return rfl (by decide +kernel)
def B100_0 : List (Nat × aO) := [(0, oS (gKo (.int 0)) 1), (1, oSI 3 4 2), (2, oLI 3 3), (3, oS (gKo (.int 55)) 5), (5, oB2 b_icmp_ge q_ge 30 8), (8, oLA 0 9), (9, oGe 5 0 12), (12, oLI 2 13)]
theorem B100_0_ok : ∀ q ∈ B100_0, Ok M100 q.1 q.2 := List.forall_mem_cons.mpr ⟨k_100_0, List.forall_mem_cons.mpr ⟨k_100_1, List.forall_mem_cons.mpr ⟨k_100_2, List.forall_mem_cons.mpr ⟨k_100_3, List.forall_mem_cons.mpr ⟨k_100_5, List.forall_mem_cons.mpr ⟨k_100_8, List.forall_mem_cons.mpr ⟨k_100_9, List.forall_mem_cons.mpr ⟨k_100_12, fun _ h => absurd h List.not_mem_nil⟩⟩⟩⟩⟩⟩⟩⟩
def B100_1 : List (Nat × aO) := [(13, oLI 3 14), (14, oS (gI2 f_iadd) 15), (15, oLA 0 16), (16, oGe 5 0 19), (19, oLI 1 20), (20, oLI 3 21), (21, oS (gI2 f_iadd) 22), (22, oAI 23)]
theorem B100_1_ok : ∀ q ∈ B100_1, Ok M100 q.1 q.2 := List.forall_mem_cons.mpr ⟨k_100_13, List.forall_mem_cons.mpr ⟨k_100_14, List.forall_mem_cons.mpr ⟨k_100_15, List.forall_mem_cons.mpr ⟨k_100_16, List.forall_mem_cons.mpr ⟨k_100_19, List.forall_mem_cons.mpr ⟨k_100_20, List.forall_mem_cons.mpr ⟨k_100_21, List.forall_mem_cons.mpr ⟨k_100_22, fun _ h => absurd h List.not_mem_nil⟩⟩⟩⟩⟩⟩⟩⟩
def B100_2 : List (Nat × aO) := [(23, oAT 24), (24, oInc 3 1 4 27), (27, oGo 2), (30, oRV)]
theorem B100_2_ok : ∀ q ∈ B100_2, Ok M100 q.1 q.2 := List.forall_mem_cons.mpr ⟨k_100_23, List.forall_mem_cons.mpr ⟨k_100_24, List.forall_mem_cons.mpr ⟨k_100_27, List.forall_mem_cons.mpr ⟨k_100_30, fun _ h => absurd h List.not_mem_nil⟩⟩⟩⟩
def P100 : List (Nat × List (Nat × aO)) := [(12, B100_0), (22, B100_1), (30, B100_2)]
theorem P100_ok : ∀ b ∈ P100, ∀ q ∈ b.2, Ok M100 q.1 q.2 := List.forall_mem_cons.mpr ⟨B100_0_ok, List.forall_mem_cons.mpr ⟨B100_1_ok, List.forall_mem_cons.mpr ⟨B100_2_ok, fun _ h => absurd h List.not_mem_nil⟩⟩⟩
theorem k_101_0 : Ok M101 0 (oLA 0 1) := r_aload_n (j := 0) (by decide +kernel) rfl
theorem k_101_1 : Ok M101 1 (oGe 5 1 4) := r_get (idx := 40) (by decide +kernel) cd_5 1 (by decide) w_679 rfl
theorem k_101_4 : Ok M101 4 (oS (gKo (.int 6)) 6) := r_bipush (n := 6) (by decide +kernel) (by decide +kernel)
theorem k_101_6 : Ok M101 6 (oB2 b_icmp_ne q_ne 52 9) := r_icmp_ne (off := 46) (by decide +kernel) (by decide +kernel)
theorem k_101_9 : Ok M101 9 (oS (gKo (.int 0)) 10) := r_iconst (n := 0) (by decide +kernel) (by decide +kernel)
theorem k_101_10 : Ok M101 10 (oSI 1 2 11) := r_istore_n (j := 1) (by decide +kernel) rfl
theorem k_101_11 : Ok M101 11 (oLI 1 12) := r_iload_n (j := 1) (by decide +kernel) rfl
theorem k_101_12 : Ok M101 12 (oS (gKo (.int 275)) 15) := r_sipush (n := 275) (by decide +kernel) (by decide +kernel)
theorem k_101_15 : Ok M101 15 (oB2 b_icmp_ge q_ge 42 18) := r_icmp_ge (off := 27) (by decide +kernel) (by decide +kernel)
theorem k_101_18 : Ok M101 18 (oLA 0 19) := r_aload_n (j := 0) (by decide +kernel) rfl
theorem k_101_19 : Ok M101 19 (oGe 5 0 22) := r_get (idx := 7) (by decide +kernel) cd_5 0 (by decide) w_678 rfl
theorem k_101_22 : Ok M101 22 (oS (gKo (.int 55)) 24) := r_bipush (n := 55) (by decide +kernel) (by decide +kernel)
theorem k_101_24 : Ok M101 24 (oLI 1 25) := r_iload_n (j := 1) (by decide +kernel) rfl
theorem k_101_25 : Ok M101 25 (oS (gI2 f_iadd) 26) := r_iadd (by decide +kernel)
theorem k_101_26 : Ok M101 26 (oLA 0 27) := r_aload_n (j := 0) (by decide +kernel) rfl
theorem k_101_27 : Ok M101 27 (oGe 5 0 30) := r_get (idx := 7) (by decide +kernel) cd_5 0 (by decide) w_678 rfl
theorem k_101_30 : Ok M101 30 (oS (gKo (.int 110)) 32) := r_bipush (n := 110) (by decide +kernel) (by decide +kernel)
theorem k_101_32 : Ok M101 32 (oLI 1 33) := r_iload_n (j := 1) (by decide +kernel) rfl
theorem k_101_33 : Ok M101 33 (oS (gI2 f_iadd) 34) := r_iadd (by decide +kernel)
theorem k_101_34 : Ok M101 34 (oAI 35) := r_iaload (by decide +kernel)
theorem k_101_35 : Ok M101 35 (oAT 36) := r_iastore (by decide +kernel)
theorem k_101_36 : Ok M101 36 (oInc 1 1 2 39) := r_iinc (n := 1) (by decide +kernel) (by decide +kernel)
theorem k_101_39 : Ok M101 39 (oGo 11) := r_goto (off := (-28)) (by decide +kernel) (by decide +kernel)
theorem k_101_42 : Ok M101 42 (oLA 0 43) := r_aload_n (j := 0) (by decide +kernel) rfl
theorem k_101_43 : Ok M101 43 (oS gDu 44) := r_dup (by decide +kernel)
theorem k_101_44 : Ok M101 44 (oGe 5 1 47) := r_get (idx := 40) (by decide +kernel) cd_5 1 (by decide) w_679 rfl
theorem k_101_47 : Ok M101 47 (oS (gKo (.int 1)) 48) := r_iconst (n := 1) (by decide +kernel) (by decide +kernel)
theorem k_101_48 : Ok M101 48 (oS (gI2 f_isub) 49) := r_isub (by decide +kernel)
theorem k_101_49 : Ok M101 49 (oPI 5 1 52) := r_putI (idx := 40) (by decide +kernel) cd_5 1 (by decide) w_679 rfl rfl (by decide +kernel)
theorem k_101_52 : Ok M101 52 (oLA 0 53) := r_aload_n (j := 0) (by decide +kernel) rfl
theorem k_101_53 : Ok M101 53 (oS (gKo (.int 0)) 54) := r_iconst (n := 0) (by decide +kernel) (by decide +kernel)
theorem k_101_54 : Ok M101 54 (oS (gKo (.int 55)) 56) := r_bipush (n := 55) (by decide +kernel) (by decide +kernel)
theorem k_101_56 : Ok M101 56 (oS (gKo (.int 55)) 58) := r_bipush (n := 55) (by decide +kernel) (by decide +kernel)
theorem k_101_58 : Ok M101 58 (oLA 0 59) := r_aload_n (j := 0) (by decide +kernel) rfl
theorem k_101_59 : Ok M101 59 (oGe 5 1 62) := r_get (idx := 40) (by decide +kernel) cd_5 1 (by decide) w_679 rfl
theorem k_101_62 : Ok M101 62 (oS (gI2 f_imul) 63) := r_imul (by decide +kernel)
theorem k_101_63 : Ok M101 63 (oS (gI2 f_iadd) 64) := r_iadd (by decide +kernel)
theorem k_101_64 : Ok M101 64 (oCV 5 100 2) := r_callV (idx := 44) (by decide +kernel) w_759 cv_100
theorem k_101_67 : Ok M101 67 (oLA 0 68) := r_aload_n (j := 0) (by decide +kernel) rfl
theorem k_101_68 : Ok M101 68 (oS gDu 69) := r_dup (by decide +kernel)
theorem k_101_69 : Ok M101 69 (oGe 5 1 72) := r_get (idx := 40) (by decide +kernel) cd_5 1 (by decide) w_679 rfl
theorem k_101_72 : Ok M101 72 (oS (gKo (.int 1)) 73) := r_iconst (n := 1) (by decide +kernel) (by decide +kernel)
theorem k_101_73 : Ok M101 73 (oS (gI2 f_iadd) 74) := r_iadd (by decide +kernel)
theorem k_101_74 : Ok M101 74 (oPI 5 1 77) := r_putI (idx := 40) (by decide +kernel) cd_5 1 (by decide) w_679 rfl rfl (by decide +kernel)
theorem k_101_77 : Ok M101 77 (oRV) := r_return rfl (by decide +kernel)
def B101_0 : List (Nat × aO) := [(0, oLA 0 1), (1, oGe 5 1 4), (4, oS (gKo (.int 6)) 6), (6, oB2 b_icmp_ne q_ne 52 9), (9, oS (gKo (.int 0)) 10), (10, oSI 1 2 11), (11, oLI 1 12), (12, oS (gKo (.int 275)) 15)]
theorem B101_0_ok : ∀ q ∈ B101_0, Ok M101 q.1 q.2 := List.forall_mem_cons.mpr ⟨k_101_0, List.forall_mem_cons.mpr ⟨k_101_1, List.forall_mem_cons.mpr ⟨k_101_4, List.forall_mem_cons.mpr ⟨k_101_6, List.forall_mem_cons.mpr ⟨k_101_9, List.forall_mem_cons.mpr ⟨k_101_10, List.forall_mem_cons.mpr ⟨k_101_11, List.forall_mem_cons.mpr ⟨k_101_12, fun _ h => absurd h List.not_mem_nil⟩⟩⟩⟩⟩⟩⟩⟩
def B101_1 : List (Nat × aO) := [(15, oB2 b_icmp_ge q_ge 42 18), (18, oLA 0 19), (19, oGe 5 0 22), (22, oS (gKo (.int 55)) 24), (24, oLI 1 25), (25, oS (gI2 f_iadd) 26), (26, oLA 0 27), (27, oGe 5 0 30)]
theorem B101_1_ok : ∀ q ∈ B101_1, Ok M101 q.1 q.2 := List.forall_mem_cons.mpr ⟨k_101_15, List.forall_mem_cons.mpr ⟨k_101_18, List.forall_mem_cons.mpr ⟨k_101_19, List.forall_mem_cons.mpr ⟨k_101_22, List.forall_mem_cons.mpr ⟨k_101_24, List.forall_mem_cons.mpr ⟨k_101_25, List.forall_mem_cons.mpr ⟨k_101_26, List.forall_mem_cons.mpr ⟨k_101_27, fun _ h => absurd h List.not_mem_nil⟩⟩⟩⟩⟩⟩⟩⟩
def B101_2 : List (Nat × aO) := [(30, oS (gKo (.int 110)) 32), (32, oLI 1 33), (33, oS (gI2 f_iadd) 34), (34, oAI 35), (35, oAT 36), (36, oInc 1 1 2 39), (39, oGo 11), (42, oLA 0 43)]
theorem B101_2_ok : ∀ q ∈ B101_2, Ok M101 q.1 q.2 := List.forall_mem_cons.mpr ⟨k_101_30, List.forall_mem_cons.mpr ⟨k_101_32, List.forall_mem_cons.mpr ⟨k_101_33, List.forall_mem_cons.mpr ⟨k_101_34, List.forall_mem_cons.mpr ⟨k_101_35, List.forall_mem_cons.mpr ⟨k_101_36, List.forall_mem_cons.mpr ⟨k_101_39, List.forall_mem_cons.mpr ⟨k_101_42, fun _ h => absurd h List.not_mem_nil⟩⟩⟩⟩⟩⟩⟩⟩
def B101_3 : List (Nat × aO) := [(43, oS gDu 44), (44, oGe 5 1 47), (47, oS (gKo (.int 1)) 48), (48, oS (gI2 f_isub) 49), (49, oPI 5 1 52), (52, oLA 0 53), (53, oS (gKo (.int 0)) 54), (54, oS (gKo (.int 55)) 56)]
theorem B101_3_ok : ∀ q ∈ B101_3, Ok M101 q.1 q.2 := List.forall_mem_cons.mpr ⟨k_101_43, List.forall_mem_cons.mpr ⟨k_101_44, List.forall_mem_cons.mpr ⟨k_101_47, List.forall_mem_cons.mpr ⟨k_101_48, List.forall_mem_cons.mpr ⟨k_101_49, List.forall_mem_cons.mpr ⟨k_101_52, List.forall_mem_cons.mpr ⟨k_101_53, List.forall_mem_cons.mpr ⟨k_101_54, fun _ h => absurd h List.not_mem_nil⟩⟩⟩⟩⟩⟩⟩⟩
def B101_4 : List (Nat × aO) := [(56, oS (gKo (.int 55)) 58), (58, oLA 0 59), (59, oGe 5 1 62), (62, oS (gI2 f_imul) 63), (63, oS (gI2 f_iadd) 64), (64, oCV 5 100 2), (67, oLA 0 68), (68, oS gDu 69)]
theorem B101_4_ok : ∀ q ∈ B101_4, Ok M101 q.1 q.2 := List.forall_mem_cons.mpr ⟨k_101_56, List.forall_mem_cons.mpr ⟨k_101_58, List.forall_mem_cons.mpr ⟨k_101_59, List.forall_mem_cons.mpr ⟨k_101_62, List.forall_mem_cons.mpr ⟨k_101_63, List.forall_mem_cons.mpr ⟨k_101_64, List.forall_mem_cons.mpr ⟨k_101_67, List.forall_mem_cons.mpr ⟨k_101_68, fun _ h => absurd h List.not_mem_nil⟩⟩⟩⟩⟩⟩⟩⟩
def B101_5 : List (Nat × aO) := [(69, oGe 5 1 72), (72, oS (gKo (.int 1)) 73), (73, oS (gI2 f_iadd) 74), (74, oPI 5 1 77), (77, oRV)]
theorem B101_5_ok : ∀ q ∈ B101_5, Ok M101 q.1 q.2 := List.forall_mem_cons.mpr ⟨k_101_69, List.forall_mem_cons.mpr ⟨k_101_72, List.forall_mem_cons.mpr ⟨k_101_73, List.forall_mem_cons.mpr ⟨k_101_74, List.forall_mem_cons.mpr ⟨k_101_77, fun _ h => absurd h List.not_mem_nil⟩⟩⟩⟩⟩
def P101 : List (Nat × List (Nat × aO)) := [(12, B101_0), (27, B101_1), (42, B101_2), (54, B101_3), (68, B101_4), (77, B101_5)]
theorem P101_ok : ∀ b ∈ P101, ∀ q ∈ b.2, Ok M101 q.1 q.2 := List.forall_mem_cons.mpr ⟨B101_0_ok, List.forall_mem_cons.mpr ⟨B101_1_ok, List.forall_mem_cons.mpr ⟨B101_2_ok, List.forall_mem_cons.mpr ⟨B101_3_ok, List.forall_mem_cons.mpr ⟨B101_4_ok, List.forall_mem_cons.mpr ⟨B101_5_ok, fun _ h => absurd h List.not_mem_nil⟩⟩⟩⟩⟩⟩
theorem k_102_0 : Ok M102 0 (oLI 1 1) := r_iload_n (j := 1) (by decide +kernel) rfl
theorem k_102_1 : Ok M102 1 (oS gIL 2) := r_i2l (by decide +kernel)
theorem k_102_2 : Ok M102 2 (oS (gKo (.long 0)) 3) := r_lconst (n := 0) (by decide +kernel) (by decide +kernel)
theorem k_102_3 : Ok M102 3 (oLA 0 4) := r_aload_n (j := 0) (by decide +kernel) rfl
theorem k_102_4 : Ok M102 4 (oGe 5 0 7) := r_get (idx := 7) (by decide +kernel) cd_5 0 (by decide) w_678 rfl
theorem k_102_7 : Ok M102 7 (oS (gKo (.int 0)) 8) := r_iconst (n := 0) (by decide +kernel) (by decide +kernel)
theorem k_102_8 : Ok M102 8 (oAI 9) := r_iaload (by decide +kernel)
theorem k_102_9 : Ok M102 9 (oS (gKo (.int 1)) 10) := r_iconst (n := 1) (by decide +kernel) (by decide +kernel)
theorem k_102_10 : Ok M102 10 (oS (gI2 f_isub) 11) := r_isub (by decide +kernel)
theorem k_102_11 : Ok M102 11 (oS gIL 12) := r_i2l (by decide +kernel)
theorem k_102_12 : Ok M102 12 (oCS 96 3) := r_callS (idx := 48) (by decide +kernel) w_744 cs_96
theorem k_102_15 : Ok M102 15 (oRZ) := r_zreturn rfl (by decide +kernel)
def B102_0 : List (Nat × aO) := [(0, oLI 1 1), (1, oS gIL 2), (2, oS (gKo (.long 0)) 3), (3, oLA 0 4), (4, oGe 5 0 7), (7, oS (gKo (.int 0)) 8), (8, oAI 9), (9, oS (gKo (.int 1)) 10)]
theorem B102_0_ok : ∀ q ∈ B102_0, Ok M102 q.1 q.2 := List.forall_mem_cons.mpr ⟨k_102_0, List.forall_mem_cons.mpr ⟨k_102_1, List.forall_mem_cons.mpr ⟨k_102_2, List.forall_mem_cons.mpr ⟨k_102_3, List.forall_mem_cons.mpr ⟨k_102_4, List.forall_mem_cons.mpr ⟨k_102_7, List.forall_mem_cons.mpr ⟨k_102_8, List.forall_mem_cons.mpr ⟨k_102_9, fun _ h => absurd h List.not_mem_nil⟩⟩⟩⟩⟩⟩⟩⟩
def B102_1 : List (Nat × aO) := [(10, oS (gI2 f_isub) 11), (11, oS gIL 12), (12, oCS 96 3), (15, oRZ)]
theorem B102_1_ok : ∀ q ∈ B102_1, Ok M102 q.1 q.2 := List.forall_mem_cons.mpr ⟨k_102_10, List.forall_mem_cons.mpr ⟨k_102_11, List.forall_mem_cons.mpr ⟨k_102_12, List.forall_mem_cons.mpr ⟨k_102_15, fun _ h => absurd h List.not_mem_nil⟩⟩⟩⟩
def P102 : List (Nat × List (Nat × aO)) := [(9, B102_0), (15, B102_1)]
theorem P102_ok : ∀ b ∈ P102, ∀ q ∈ b.2, Ok M102 q.1 q.2 := List.forall_mem_cons.mpr ⟨B102_0_ok, List.forall_mem_cons.mpr ⟨B102_1_ok, fun _ h => absurd h List.not_mem_nil⟩⟩
theorem k_103_0 : Ok M103 0 (oLI 1 1) := r_iload_n (j := 1) (by decide +kernel) rfl
theorem k_103_1 : Ok M103 1 (oS gIL 2) := r_i2l (by decide +kernel)
theorem k_103_2 : Ok M103 2 (oS (gKo (.long 0)) 3) := r_lconst (n := 0) (by decide +kernel) (by decide +kernel)
theorem k_103_3 : Ok M103 3 (oLA 0 4) := r_aload_n (j := 0) (by decide +kernel) rfl
theorem k_103_4 : Ok M103 4 (oGe 5 0 7) := r_get (idx := 7) (by decide +kernel) cd_5 0 (by decide) w_678 rfl
theorem k_103_7 : Ok M103 7 (oS (gKo (.int 1)) 8) := r_iconst (n := 1) (by decide +kernel) (by decide +kernel)
theorem k_103_8 : Ok M103 8 (oAI 9) := r_iaload (by decide +kernel)
theorem k_103_9 : Ok M103 9 (oS (gKo (.int 1)) 10) := r_iconst (n := 1) (by decide +kernel) (by decide +kernel)
theorem k_103_10 : Ok M103 10 (oS (gI2 f_isub) 11) := r_isub (by decide +kernel)
theorem k_103_11 : Ok M103 11 (oS gIL 12) := r_i2l (by decide +kernel)
theorem k_103_12 : Ok M103 12 (oCS 96 3) := r_callS (idx := 48) (by decide +kernel) w_744 cs_96
theorem k_103_15 : Ok M103 15 (oRZ) := r_zreturn rfl (by decide +kernel)
def B103_0 : List (Nat × aO) := [(0, oLI 1 1), (1, oS gIL 2), (2, oS (gKo (.long 0)) 3), (3, oLA 0 4), (4, oGe 5 0 7), (7, oS (gKo (.int 1)) 8), (8, oAI 9), (9, oS (gKo (.int 1)) 10)]
theorem B103_0_ok : ∀ q ∈ B103_0, Ok M103 q.1 q.2 := List.forall_mem_cons.mpr ⟨k_103_0, List.forall_mem_cons.mpr ⟨k_103_1, List.forall_mem_cons.mpr ⟨k_103_2, List.forall_mem_cons.mpr ⟨k_103_3, List.forall_mem_cons.mpr ⟨k_103_4, List.forall_mem_cons.mpr ⟨k_103_7, List.forall_mem_cons.mpr ⟨k_103_8, List.forall_mem_cons.mpr ⟨k_103_9, fun _ h => absurd h List.not_mem_nil⟩⟩⟩⟩⟩⟩⟩⟩
def B103_1 : List (Nat × aO) := [(10, oS (gI2 f_isub) 11), (11, oS gIL 12), (12, oCS 96 3), (15, oRZ)]
theorem B103_1_ok : ∀ q ∈ B103_1, Ok M103 q.1 q.2 := List.forall_mem_cons.mpr ⟨k_103_10, List.forall_mem_cons.mpr ⟨k_103_11, List.forall_mem_cons.mpr ⟨k_103_12, List.forall_mem_cons.mpr ⟨k_103_15, fun _ h => absurd h List.not_mem_nil⟩⟩⟩⟩
def P103 : List (Nat × List (Nat × aO)) := [(9, B103_0), (15, B103_1)]
theorem P103_ok : ∀ b ∈ P103, ∀ q ∈ b.2, Ok M103 q.1 q.2 := List.forall_mem_cons.mpr ⟨B103_0_ok, List.forall_mem_cons.mpr ⟨B103_1_ok, fun _ h => absurd h List.not_mem_nil⟩⟩
theorem k_104_0 : Ok M104 0 (oLA 0 1) := r_aload_n (j := 0) (by decide +kernel) rfl
theorem k_104_1 : Ok M104 1 (oGe 5 0 4) := r_get (idx := 7) (by decide +kernel) cd_5 0 (by decide) w_678 rfl
theorem k_104_4 : Ok M104 4 (oS (gKo (.int 31)) 6) := r_bipush (n := 31) (by decide +kernel) (by decide +kernel)
theorem k_104_6 : Ok M104 6 (oS (gKo (.int 6)) 8) := r_bipush (n := 6) (by decide +kernel) (by decide +kernel)
theorem k_104_8 : Ok M104 8 (oLI 1 9) := r_iload_n (j := 1) (by decide +kernel) rfl
theorem k_104_9 : Ok M104 9 (oS (gI2 f_imul) 10) := r_imul (by decide +kernel)
theorem k_104_10 : Ok M104 10 (oS (gI2 f_iadd) 11) := r_iadd (by decide +kernel)
theorem k_104_11 : Ok M104 11 (oLI 2 12) := r_iload_n (j := 2) (by decide +kernel) rfl
theorem k_104_12 : Ok M104 12 (oS (gI2 f_iadd) 13) := r_iadd (by decide +kernel)
theorem k_104_13 : Ok M104 13 (oAI 14) := r_iaload (by decide +kernel)
theorem k_104_14 : Ok M104 14 (oRI) := r_ireturn rfl (by decide +kernel)
def B104_0 : List (Nat × aO) := [(0, oLA 0 1), (1, oGe 5 0 4), (4, oS (gKo (.int 31)) 6), (6, oS (gKo (.int 6)) 8), (8, oLI 1 9), (9, oS (gI2 f_imul) 10), (10, oS (gI2 f_iadd) 11), (11, oLI 2 12)]
theorem B104_0_ok : ∀ q ∈ B104_0, Ok M104 q.1 q.2 := List.forall_mem_cons.mpr ⟨k_104_0, List.forall_mem_cons.mpr ⟨k_104_1, List.forall_mem_cons.mpr ⟨k_104_4, List.forall_mem_cons.mpr ⟨k_104_6, List.forall_mem_cons.mpr ⟨k_104_8, List.forall_mem_cons.mpr ⟨k_104_9, List.forall_mem_cons.mpr ⟨k_104_10, List.forall_mem_cons.mpr ⟨k_104_11, fun _ h => absurd h List.not_mem_nil⟩⟩⟩⟩⟩⟩⟩⟩
def B104_1 : List (Nat × aO) := [(12, oS (gI2 f_iadd) 13), (13, oAI 14), (14, oRI)]
theorem B104_1_ok : ∀ q ∈ B104_1, Ok M104 q.1 q.2 := List.forall_mem_cons.mpr ⟨k_104_12, List.forall_mem_cons.mpr ⟨k_104_13, List.forall_mem_cons.mpr ⟨k_104_14, fun _ h => absurd h List.not_mem_nil⟩⟩⟩
def P104 : List (Nat × List (Nat × aO)) := [(11, B104_0), (14, B104_1)]
theorem P104_ok : ∀ b ∈ P104, ∀ q ∈ b.2, Ok M104 q.1 q.2 := List.forall_mem_cons.mpr ⟨B104_0_ok, List.forall_mem_cons.mpr ⟨B104_1_ok, fun _ h => absurd h List.not_mem_nil⟩⟩
theorem k_105_0 : Ok M105 0 (oLI 1 1) := r_iload_n (j := 1) (by decide +kernel) rfl
theorem k_105_1 : Ok M105 1 (oS gIL 2) := r_i2l (by decide +kernel)
theorem k_105_2 : Ok M105 2 (oS (gKo (.long 0)) 3) := r_lconst (n := 0) (by decide +kernel) (by decide +kernel)
theorem k_105_3 : Ok M105 3 (oK (.long 127) 6) := r_ldc2 (i := 52) (by decide +kernel) w_743
theorem k_105_6 : Ok M105 6 (oCS 96 3) := r_callS (idx := 48) (by decide +kernel) w_744 cs_96
theorem k_105_9 : Ok M105 9 (oB1 b_if_ne q_ne 19 12) := r_if_ne (off := 10) (by decide +kernel) (by decide +kernel)
theorem k_105_12 : Ok M105 12 (oLA 0 13) := r_aload_n (j := 0) (by decide +kernel) rfl
theorem k_105_13 : Ok M105 13 (oS (gKo (.int (-2))) 15) := r_bipush (n := (-2)) (by decide +kernel) (by decide +kernel)
theorem k_105_15 : Ok M105 15 (oCV 5 99 1) := r_callV (idx := 54) (by decide +kernel) w_747 cv_99
theorem k_105_18 : Ok M105 18 (oRI) := r_ireturn rfl (by decide +kernel)
theorem k_105_19 : Ok M105 19 (oLA 0 20) := r_aload_n (j := 0) (by decide +kernel) rfl
theorem k_105_20 : Ok M105 20 (oGe 5 4 23) := r_get (idx := 58) (by decide +kernel) cd_5 4 (by decide) w_682 rfl
theorem k_105_23 : Ok M105 23 (oS (gKo (.int 160)) 26) := r_sipush (n := 160) (by decide +kernel) (by decide +kernel)
theorem k_105_26 : Ok M105 26 (oB2 b_icmp_ne q_ne 36 29) := r_icmp_ne (off := 10) (by decide +kernel) (by decide +kernel)
theorem k_105_29 : Ok M105 29 (oLA 0 30) := r_aload_n (j := 0) (by decide +kernel) rfl
theorem k_105_30 : Ok M105 30 (oS (gKo (.int (-4))) 32) := r_bipush (n := (-4)) (by decide +kernel) (by decide +kernel)
theorem k_105_32 : Ok M105 32 (oCV 5 99 1) := r_callV (idx := 54) (by decide +kernel) w_747 cv_99
theorem k_105_35 : Ok M105 35 (oRI) := r_ireturn rfl (by decide +kernel)
theorem k_105_36 : Ok M105 36 (oLA 0 37) := r_aload_n (j := 0) (by decide +kernel) rfl
theorem k_105_37 : Ok M105 37 (oGe 5 3 40) := r_get (idx := 16) (by decide +kernel) cd_5 3 (by decide) w_681 rfl
theorem k_105_40 : Ok M105 40 (oLA 0 41) := r_aload_n (j := 0) (by decide +kernel) rfl
theorem k_105_41 : Ok M105 41 (oGe 5 4 44) := r_get (idx := 58) (by decide +kernel) cd_5 4 (by decide) w_682 rfl
theorem k_105_44 : Ok M105 44 (oLI 1 45) := r_iload_n (j := 1) (by decide +kernel) rfl
theorem k_105_45 : Ok M105 45 (oAT 46) := r_iastore (by decide +kernel)
theorem k_105_46 : Ok M105 46 (oLA 0 47) := r_aload_n (j := 0) (by decide +kernel) rfl
theorem k_105_47 : Ok M105 47 (oS gDu 48) := r_dup (by decide +kernel)
theorem k_105_48 : Ok M105 48 (oGe 5 4 51) := r_get (idx := 58) (by decide +kernel) cd_5 4 (by decide) w_682 rfl
theorem k_105_51 : Ok M105 51 (oS (gKo (.int 1)) 52) := r_iconst (n := 1) (by decide +kernel) (by decide +kernel)
theorem k_105_52 : Ok M105 52 (oS (gI2 f_iadd) 53) := r_iadd (by decide +kernel)
theorem k_105_53 : Ok M105 53 (oPI 5 4 56) := r_putI (idx := 58) (by decide +kernel) cd_5 4 (by decide) w_682 rfl rfl (by decide +kernel)
theorem k_105_56 : Ok M105 56 (oLA 0 57) := r_aload_n (j := 0) (by decide +kernel) rfl
theorem k_105_57 : Ok M105 57 (oGe 5 4 60) := r_get (idx := 58) (by decide +kernel) cd_5 4 (by decide) w_682 rfl
theorem k_105_60 : Ok M105 60 (oRI) := r_ireturn rfl (by decide +kernel)
def B105_0 : List (Nat × aO) := [(0, oLI 1 1), (1, oS gIL 2), (2, oS (gKo (.long 0)) 3), (3, oK (.long 127) 6), (6, oCS 96 3), (9, oB1 b_if_ne q_ne 19 12), (12, oLA 0 13), (13, oS (gKo (.int (-2))) 15)]
theorem B105_0_ok : ∀ q ∈ B105_0, Ok M105 q.1 q.2 := List.forall_mem_cons.mpr ⟨k_105_0, List.forall_mem_cons.mpr ⟨k_105_1, List.forall_mem_cons.mpr ⟨k_105_2, List.forall_mem_cons.mpr ⟨k_105_3, List.forall_mem_cons.mpr ⟨k_105_6, List.forall_mem_cons.mpr ⟨k_105_9, List.forall_mem_cons.mpr ⟨k_105_12, List.forall_mem_cons.mpr ⟨k_105_13, fun _ h => absurd h List.not_mem_nil⟩⟩⟩⟩⟩⟩⟩⟩
def B105_1 : List (Nat × aO) := [(15, oCV 5 99 1), (18, oRI), (19, oLA 0 20), (20, oGe 5 4 23), (23, oS (gKo (.int 160)) 26), (26, oB2 b_icmp_ne q_ne 36 29), (29, oLA 0 30), (30, oS (gKo (.int (-4))) 32)]
theorem B105_1_ok : ∀ q ∈ B105_1, Ok M105 q.1 q.2 := List.forall_mem_cons.mpr ⟨k_105_15, List.forall_mem_cons.mpr ⟨k_105_18, List.forall_mem_cons.mpr ⟨k_105_19, List.forall_mem_cons.mpr ⟨k_105_20, List.forall_mem_cons.mpr ⟨k_105_23, List.forall_mem_cons.mpr ⟨k_105_26, List.forall_mem_cons.mpr ⟨k_105_29, List.forall_mem_cons.mpr ⟨k_105_30, fun _ h => absurd h List.not_mem_nil⟩⟩⟩⟩⟩⟩⟩⟩
def B105_2 : List (Nat × aO) := [(32, oCV 5 99 1), (35, oRI), (36, oLA 0 37), (37, oGe 5 3 40), (40, oLA 0 41), (41, oGe 5 4 44), (44, oLI 1 45), (45, oAT 46)]
theorem B105_2_ok : ∀ q ∈ B105_2, Ok M105 q.1 q.2 := List.forall_mem_cons.mpr ⟨k_105_32, List.forall_mem_cons.mpr ⟨k_105_35, List.forall_mem_cons.mpr ⟨k_105_36, List.forall_mem_cons.mpr ⟨k_105_37, List.forall_mem_cons.mpr ⟨k_105_40, List.forall_mem_cons.mpr ⟨k_105_41, List.forall_mem_cons.mpr ⟨k_105_44, List.forall_mem_cons.mpr ⟨k_105_45, fun _ h => absurd h List.not_mem_nil⟩⟩⟩⟩⟩⟩⟩⟩
def B105_3 : List (Nat × aO) := [(46, oLA 0 47), (47, oS gDu 48), (48, oGe 5 4 51), (51, oS (gKo (.int 1)) 52), (52, oS (gI2 f_iadd) 53), (53, oPI 5 4 56), (56, oLA 0 57), (57, oGe 5 4 60)]
theorem B105_3_ok : ∀ q ∈ B105_3, Ok M105 q.1 q.2 := List.forall_mem_cons.mpr ⟨k_105_46, List.forall_mem_cons.mpr ⟨k_105_47, List.forall_mem_cons.mpr ⟨k_105_48, List.forall_mem_cons.mpr ⟨k_105_51, List.forall_mem_cons.mpr ⟨k_105_52, List.forall_mem_cons.mpr ⟨k_105_53, List.forall_mem_cons.mpr ⟨k_105_56, List.forall_mem_cons.mpr ⟨k_105_57, fun _ h => absurd h List.not_mem_nil⟩⟩⟩⟩⟩⟩⟩⟩
def B105_4 : List (Nat × aO) := [(60, oRI)]
theorem B105_4_ok : ∀ q ∈ B105_4, Ok M105 q.1 q.2 := List.forall_mem_cons.mpr ⟨k_105_60, fun _ h => absurd h List.not_mem_nil⟩
def P105 : List (Nat × List (Nat × aO)) := [(13, B105_0), (30, B105_1), (45, B105_2), (57, B105_3), (60, B105_4)]
theorem P105_ok : ∀ b ∈ P105, ∀ q ∈ b.2, Ok M105 q.1 q.2 := List.forall_mem_cons.mpr ⟨B105_0_ok, List.forall_mem_cons.mpr ⟨B105_1_ok, List.forall_mem_cons.mpr ⟨B105_2_ok, List.forall_mem_cons.mpr ⟨B105_3_ok, List.forall_mem_cons.mpr ⟨B105_4_ok, fun _ h => absurd h List.not_mem_nil⟩⟩⟩⟩⟩
theorem k_106_0 : Ok M106 0 (oLA 0 1) := r_aload_n (j := 0) (by decide +kernel) rfl
theorem k_106_1 : Ok M106 1 (oGe 5 4 4) := r_get (idx := 58) (by decide +kernel) cd_5 4 (by decide) w_682 rfl
theorem k_106_4 : Ok M106 4 (oSI 1 2 5) := r_istore_n (j := 1) (by decide +kernel) rfl
theorem k_106_5 : Ok M106 5 (oLA 0 6) := r_aload_n (j := 0) (by decide +kernel) rfl
theorem k_106_6 : Ok M106 6 (oS (gKo (.int 0)) 7) := r_iconst (n := 0) (by decide +kernel) (by decide +kernel)
theorem k_106_7 : Ok M106 7 (oPI 5 4 10) := r_putI (idx := 58) (by decide +kernel) cd_5 4 (by decide) w_682 rfl rfl (by decide +kernel)
theorem k_106_10 : Ok M106 10 (oLI 1 11) := r_iload_n (j := 1) (by decide +kernel) rfl
theorem k_106_11 : Ok M106 11 (oRI) := r_ireturn rfl (by decide +kernel)
def B106_0 : List (Nat × aO) := [(0, oLA 0 1), (1, oGe 5 4 4), (4, oSI 1 2 5), (5, oLA 0 6), (6, oS (gKo (.int 0)) 7), (7, oPI 5 4 10), (10, oLI 1 11), (11, oRI)]
theorem B106_0_ok : ∀ q ∈ B106_0, Ok M106 q.1 q.2 := List.forall_mem_cons.mpr ⟨k_106_0, List.forall_mem_cons.mpr ⟨k_106_1, List.forall_mem_cons.mpr ⟨k_106_4, List.forall_mem_cons.mpr ⟨k_106_5, List.forall_mem_cons.mpr ⟨k_106_6, List.forall_mem_cons.mpr ⟨k_106_7, List.forall_mem_cons.mpr ⟨k_106_10, List.forall_mem_cons.mpr ⟨k_106_11, fun _ h => absurd h List.not_mem_nil⟩⟩⟩⟩⟩⟩⟩⟩
def P106 : List (Nat × List (Nat × aO)) := [(11, B106_0)]
theorem P106_ok : ∀ b ∈ P106, ∀ q ∈ b.2, Ok M106 q.1 q.2 := List.forall_mem_cons.mpr ⟨B106_0_ok, fun _ h => absurd h List.not_mem_nil⟩
theorem k_107_0 : Ok M107 0 (oLA 0 1) := r_aload_n (j := 0) (by decide +kernel) rfl
theorem k_107_1 : Ok M107 1 (oGe 5 6 4) := r_get (idx := 61) (by decide +kernel) cd_5 6 (by decide) w_684 rfl
theorem k_107_4 : Ok M107 4 (oLA 0 5) := r_aload_n (j := 0) (by decide +kernel) rfl
theorem k_107_5 : Ok M107 5 (oGe 5 4 8) := r_get (idx := 58) (by decide +kernel) cd_5 4 (by decide) w_682 rfl
theorem k_107_8 : Ok M107 8 (oB2 b_icmp_ge q_ge 23 11) := r_icmp_ge (off := 15) (by decide +kernel) (by decide +kernel)
theorem k_107_11 : Ok M107 11 (oLA 0 12) := r_aload_n (j := 0) (by decide +kernel) rfl
theorem k_107_12 : Ok M107 12 (oGe 5 3 15) := r_get (idx := 16) (by decide +kernel) cd_5 3 (by decide) w_681 rfl
theorem k_107_15 : Ok M107 15 (oLA 0 16) := r_aload_n (j := 0) (by decide +kernel) rfl
theorem k_107_16 : Ok M107 16 (oGe 5 6 19) := r_get (idx := 61) (by decide +kernel) cd_5 6 (by decide) w_684 rfl
theorem k_107_19 : Ok M107 19 (oAI 20) := r_iaload (by decide +kernel)
theorem k_107_20 : Ok M107 20 (oGo 24) := r_goto (off := 4) (by decide +kernel) (by decide +kernel)
theorem k_107_23 : Ok M107 23 (oS (gKo (.int (-1))) 24) := r_iconst (n := (-1)) (by decide +kernel) (by decide +kernel)
theorem k_107_24 : Ok M107 24 (oRI) := r_ireturn rfl (by decide +kernel)
def B107_0 : List (Nat × aO) := [(0, oLA 0 1), (1, oGe 5 6 4), (4, oLA 0 5), (5, oGe 5 4 8), (8, oB2 b_icmp_ge q_ge 23 11), (11, oLA 0 12), (12, oGe 5 3 15), (15, oLA 0 16)]
theorem B107_0_ok : ∀ q ∈ B107_0, Ok M107 q.1 q.2 := List.forall_mem_cons.mpr ⟨k_107_0, List.forall_mem_cons.mpr ⟨k_107_1, List.forall_mem_cons.mpr ⟨k_107_4, List.forall_mem_cons.mpr ⟨k_107_5, List.forall_mem_cons.mpr ⟨k_107_8, List.forall_mem_cons.mpr ⟨k_107_11, List.forall_mem_cons.mpr ⟨k_107_12, List.forall_mem_cons.mpr ⟨k_107_15, fun _ h => absurd h List.not_mem_nil⟩⟩⟩⟩⟩⟩⟩⟩
def B107_1 : List (Nat × aO) := [(16, oGe 5 6 19), (19, oAI 20), (20, oGo 24), (23, oS (gKo (.int (-1))) 24), (24, oRI)]
theorem B107_1_ok : ∀ q ∈ B107_1, Ok M107 q.1 q.2 := List.forall_mem_cons.mpr ⟨k_107_16, List.forall_mem_cons.mpr ⟨k_107_19, List.forall_mem_cons.mpr ⟨k_107_20, List.forall_mem_cons.mpr ⟨k_107_23, List.forall_mem_cons.mpr ⟨k_107_24, fun _ h => absurd h List.not_mem_nil⟩⟩⟩⟩⟩
def P107 : List (Nat × List (Nat × aO)) := [(15, B107_0), (24, B107_1)]
theorem P107_ok : ∀ b ∈ P107, ∀ q ∈ b.2, Ok M107 q.1 q.2 := List.forall_mem_cons.mpr ⟨B107_0_ok, List.forall_mem_cons.mpr ⟨B107_1_ok, fun _ h => absurd h List.not_mem_nil⟩⟩
theorem k_108_0 : Ok M108 0 (oLA 0 1) := r_aload_n (j := 0) (by decide +kernel) rfl
theorem k_108_1 : Ok M108 1 (oCV 5 107 0) := r_callV (idx := 64) (by decide +kernel) w_775 cv_107
theorem k_108_4 : Ok M108 4 (oLI 1 5) := r_iload_n (j := 1) (by decide +kernel) rfl
theorem k_108_5 : Ok M108 5 (oB2 b_icmp_ne q_ne 12 8) := r_icmp_ne (off := 7) (by decide +kernel) (by decide +kernel)
theorem k_108_8 : Ok M108 8 (oS (gKo (.int 1)) 9) := r_iconst (n := 1) (by decide +kernel) (by decide +kernel)
theorem k_108_9 : Ok M108 9 (oGo 13) := r_goto (off := 4) (by decide +kernel) (by decide +kernel)
theorem k_108_12 : Ok M108 12 (oS (gKo (.int 0)) 13) := r_iconst (n := 0) (by decide +kernel) (by decide +kernel)
theorem k_108_13 : Ok M108 13 (oRZ) := r_zreturn rfl (by decide +kernel)
def B108_0 : List (Nat × aO) := [(0, oLA 0 1), (1, oCV 5 107 0), (4, oLI 1 5), (5, oB2 b_icmp_ne q_ne 12 8), (8, oS (gKo (.int 1)) 9), (9, oGo 13), (12, oS (gKo (.int 0)) 13), (13, oRZ)]
theorem B108_0_ok : ∀ q ∈ B108_0, Ok M108 q.1 q.2 := List.forall_mem_cons.mpr ⟨k_108_0, List.forall_mem_cons.mpr ⟨k_108_1, List.forall_mem_cons.mpr ⟨k_108_4, List.forall_mem_cons.mpr ⟨k_108_5, List.forall_mem_cons.mpr ⟨k_108_8, List.forall_mem_cons.mpr ⟨k_108_9, List.forall_mem_cons.mpr ⟨k_108_12, List.forall_mem_cons.mpr ⟨k_108_13, fun _ h => absurd h List.not_mem_nil⟩⟩⟩⟩⟩⟩⟩⟩
def P108 : List (Nat × List (Nat × aO)) := [(13, B108_0)]
theorem P108_ok : ∀ b ∈ P108, ∀ q ∈ b.2, Ok M108 q.1 q.2 := List.forall_mem_cons.mpr ⟨B108_0_ok, fun _ h => absurd h List.not_mem_nil⟩
theorem k_109_0 : Ok M109 0 (oLA 0 1) := r_aload_n (j := 0) (by decide +kernel) rfl
theorem k_109_1 : Ok M109 1 (oCV 5 107 0) := r_callV (idx := 64) (by decide +kernel) w_775 cv_107
theorem k_109_4 : Ok M109 4 (oS gIL 5) := r_i2l (by decide +kernel)
theorem k_109_5 : Ok M109 5 (oK (.long 48) 8) := r_ldc2 (i := 68) (by decide +kernel) w_783
theorem k_109_8 : Ok M109 8 (oK (.long 57) 11) := r_ldc2 (i := 70) (by decide +kernel) w_810
theorem k_109_11 : Ok M109 11 (oCS 96 3) := r_callS (idx := 48) (by decide +kernel) w_744 cs_96
theorem k_109_14 : Ok M109 14 (oRZ) := r_zreturn rfl (by decide +kernel)
def B109_0 : List (Nat × aO) := [(0, oLA 0 1), (1, oCV 5 107 0), (4, oS gIL 5), (5, oK (.long 48) 8), (8, oK (.long 57) 11), (11, oCS 96 3), (14, oRZ)]
theorem B109_0_ok : ∀ q ∈ B109_0, Ok M109 q.1 q.2 := List.forall_mem_cons.mpr ⟨k_109_0, List.forall_mem_cons.mpr ⟨k_109_1, List.forall_mem_cons.mpr ⟨k_109_4, List.forall_mem_cons.mpr ⟨k_109_5, List.forall_mem_cons.mpr ⟨k_109_8, List.forall_mem_cons.mpr ⟨k_109_11, List.forall_mem_cons.mpr ⟨k_109_14, fun _ h => absurd h List.not_mem_nil⟩⟩⟩⟩⟩⟩⟩
def P109 : List (Nat × List (Nat × aO)) := [(14, B109_0)]
theorem P109_ok : ∀ b ∈ P109, ∀ q ∈ b.2, Ok M109 q.1 q.2 := List.forall_mem_cons.mpr ⟨B109_0_ok, fun _ h => absurd h List.not_mem_nil⟩
theorem k_110_0 : Ok M110 0 (oLA 0 1) := r_aload_n (j := 0) (by decide +kernel) rfl
theorem k_110_1 : Ok M110 1 (oLI 1 2) := r_iload_n (j := 1) (by decide +kernel) rfl
theorem k_110_2 : Ok M110 2 (oPI 5 8 5) := r_putI (idx := 72) (by decide +kernel) cd_5 8 (by decide) w_686 rfl rfl (by decide +kernel)
theorem k_110_5 : Ok M110 5 (oLA 0 6) := r_aload_n (j := 0) (by decide +kernel) rfl
theorem k_110_6 : Ok M110 6 (oLI 2 7) := r_iload_n (j := 2) (by decide +kernel) rfl
theorem k_110_7 : Ok M110 7 (oPI 5 9 10) := r_putI (idx := 75) (by decide +kernel) cd_5 9 (by decide) w_687 rfl rfl (by decide +kernel)
theorem k_110_10 : Ok M110 10 (oRV) := r_return rfl (by decide +kernel)
def B110_0 : List (Nat × aO) := [(0, oLA 0 1), (1, oLI 1 2), (2, oPI 5 8 5), (5, oLA 0 6), (6, oLI 2 7), (7, oPI 5 9 10), (10, oRV)]
theorem B110_0_ok : ∀ q ∈ B110_0, Ok M110 q.1 q.2 := List.forall_mem_cons.mpr ⟨k_110_0, List.forall_mem_cons.mpr ⟨k_110_1, List.forall_mem_cons.mpr ⟨k_110_2, List.forall_mem_cons.mpr ⟨k_110_5, List.forall_mem_cons.mpr ⟨k_110_6, List.forall_mem_cons.mpr ⟨k_110_7, List.forall_mem_cons.mpr ⟨k_110_10, fun _ h => absurd h List.not_mem_nil⟩⟩⟩⟩⟩⟩⟩
def P110 : List (Nat × List (Nat × aO)) := [(10, B110_0)]
theorem P110_ok : ∀ b ∈ P110, ∀ q ∈ b.2, Ok M110 q.1 q.2 := List.forall_mem_cons.mpr ⟨B110_0_ok, fun _ h => absurd h List.not_mem_nil⟩
theorem k_111_0 : Ok M111 0 (oLA 0 1) := r_aload_n (j := 0) (by decide +kernel) rfl
theorem k_111_1 : Ok M111 1 (oLI 1 2) := r_iload_n (j := 1) (by decide +kernel) rfl
theorem k_111_2 : Ok M111 2 (oCV 5 108 1) := r_callV (idx := 78) (by decide +kernel) w_789 cv_108
theorem k_111_5 : Ok M111 5 (oSI 2 3 6) := r_istore_n (j := 2) (by decide +kernel) rfl
theorem k_111_6 : Ok M111 6 (oLA 0 7) := r_aload_n (j := 0) (by decide +kernel) rfl
theorem k_111_7 : Ok M111 7 (oS gDu 8) := r_dup (by decide +kernel)
theorem k_111_8 : Ok M111 8 (oGe 5 6 11) := r_get (idx := 61) (by decide +kernel) cd_5 6 (by decide) w_684 rfl
theorem k_111_11 : Ok M111 11 (oLI 2 12) := r_iload_n (j := 2) (by decide +kernel) rfl
theorem k_111_12 : Ok M111 12 (oB1 b_if_eq q_eq 19 15) := r_if_eq (off := 7) (by decide +kernel) (by decide +kernel)
theorem k_111_15 : Ok M111 15 (oS (gKo (.int 1)) 16) := r_iconst (n := 1) (by decide +kernel) (by decide +kernel)
theorem k_111_16 : Ok M111 16 (oGo 20) := r_goto (off := 4) (by decide +kernel) (by decide +kernel)
theorem k_111_19 : Ok M111 19 (oS (gKo (.int 0)) 20) := r_iconst (n := 0) (by decide +kernel) (by decide +kernel)
theorem k_111_20 : Ok M111 20 (oS (gI2 f_iadd) 21) := r_iadd (by decide +kernel)
theorem k_111_21 : Ok M111 21 (oPI 5 6 24) := r_putI (idx := 61) (by decide +kernel) cd_5 6 (by decide) w_684 rfl rfl (by decide +kernel)
theorem k_111_24 : Ok M111 24 (oLI 2 25) := r_iload_n (j := 2) (by decide +kernel) rfl
theorem k_111_25 : Ok M111 25 (oRZ) := r_zreturn rfl (by decide +kernel)
def B111_0 : List (Nat × aO) := [(0, oLA 0 1), (1, oLI 1 2), (2, oCV 5 108 1), (5, oSI 2 3 6), (6, oLA 0 7), (7, oS gDu 8), (8, oGe 5 6 11), (11, oLI 2 12)]
theorem B111_0_ok : ∀ q ∈ B111_0, Ok M111 q.1 q.2 := List.forall_mem_cons.mpr ⟨k_111_0, List.forall_mem_cons.mpr ⟨k_111_1, List.forall_mem_cons.mpr ⟨k_111_2, List.forall_mem_cons.mpr ⟨k_111_5, List.forall_mem_cons.mpr ⟨k_111_6, List.forall_mem_cons.mpr ⟨k_111_7, List.forall_mem_cons.mpr ⟨k_111_8, List.forall_mem_cons.mpr ⟨k_111_11, fun _ h => absurd h List.not_mem_nil⟩⟩⟩⟩⟩⟩⟩⟩
def B111_1 : List (Nat × aO) := [(12, oB1 b_if_eq q_eq 19 15), (15, oS (gKo (.int 1)) 16), (16, oGo 20), (19, oS (gKo (.int 0)) 20), (20, oS (gI2 f_iadd) 21), (21, oPI 5 6 24), (24, oLI 2 25), (25, oRZ)]
theorem B111_1_ok : ∀ q ∈ B111_1, Ok M111 q.1 q.2 := List.forall_mem_cons.mpr ⟨k_111_12, List.forall_mem_cons.mpr ⟨k_111_15, List.forall_mem_cons.mpr ⟨k_111_16, List.forall_mem_cons.mpr ⟨k_111_19, List.forall_mem_cons.mpr ⟨k_111_20, List.forall_mem_cons.mpr ⟨k_111_21, List.forall_mem_cons.mpr ⟨k_111_24, List.forall_mem_cons.mpr ⟨k_111_25, fun _ h => absurd h List.not_mem_nil⟩⟩⟩⟩⟩⟩⟩⟩
def P111 : List (Nat × List (Nat × aO)) := [(11, B111_0), (25, B111_1)]
theorem P111_ok : ∀ b ∈ P111, ∀ q ∈ b.2, Ok M111 q.1 q.2 := List.forall_mem_cons.mpr ⟨B111_0_ok, List.forall_mem_cons.mpr ⟨B111_1_ok, fun _ h => absurd h List.not_mem_nil⟩⟩
theorem k_112_0 : Ok M112 0 (oS (gKo (.int 0)) 1) := r_iconst (n := 0) (by decide +kernel) (by decide +kernel)
theorem k_112_1 : Ok M112 1 (oSI 1 3 2) := r_istore_n (j := 1) (by decide +kernel) rfl
theorem k_112_2 : Ok M112 2 (oS (gKo (.int 0)) 3) := r_iconst (n := 0) (by decide +kernel) (by decide +kernel)
theorem k_112_3 : Ok M112 3 (oSI 2 3 4) := r_istore_n (j := 2) (by decide +kernel) rfl
theorem k_112_4 : Ok M112 4 (oLA 0 5) := r_aload_n (j := 0) (by decide +kernel) rfl
theorem k_112_5 : Ok M112 5 (oS (gKo (.int 1)) 6) := r_iconst (n := 1) (by decide +kernel) (by decide +kernel)
theorem k_112_6 : Ok M112 6 (oS (gKo (.int 0)) 7) := r_iconst (n := 0) (by decide +kernel) (by decide +kernel)
theorem k_112_7 : Ok M112 7 (oCV 5 110 2) := r_callV (idx := 82) (by decide +kernel) w_771 cv_110
theorem k_112_10 : Ok M112 10 (oLA 0 11) := r_aload_n (j := 0) (by decide +kernel) rfl
theorem k_112_11 : Ok M112 11 (oCV 5 107 0) := r_callV (idx := 64) (by decide +kernel) w_775 cv_107
theorem k_112_14 : Ok M112 14 (oS gIL 15) := r_i2l (by decide +kernel)
theorem k_112_15 : Ok M112 15 (oK (.long 97) 18) := r_ldc2 (i := 85) (by decide +kernel) w_797
theorem k_112_18 : Ok M112 18 (oK (.long 108) 21) := r_ldc2 (i := 87) (by decide +kernel) w_798
theorem k_112_21 : Ok M112 21 (oCS 96 3) := r_callS (idx := 48) (by decide +kernel) w_744 cs_96
theorem k_112_24 : Ok M112 24 (oB1 b_if_eq q_eq 88 27) := r_if_eq (off := 64) (by decide +kernel) (by decide +kernel)
theorem k_112_27 : Ok M112 27 (oLA 0 28) := r_aload_n (j := 0) (by decide +kernel) rfl
theorem k_112_28 : Ok M112 28 (oGe 5 10 31) := r_get (idx := 89) (by decide +kernel) cd_5 10 (by decide) w_688 rfl
theorem k_112_31 : Ok M112 31 (oLA 0 32) := r_aload_n (j := 0) (by decide +kernel) rfl
theorem k_112_32 : Ok M112 32 (oCV 5 107 0) := r_callV (idx := 64) (by decide +kernel) w_775 cv_107
theorem k_112_35 : Ok M112 35 (oS (gKo (.int 97)) 37) := r_bipush (n := 97) (by decide +kernel) (by decide +kernel)
theorem k_112_37 : Ok M112 37 (oS (gI2 f_isub) 38) := r_isub (by decide +kernel)
theorem k_112_38 : Ok M112 38 (oCS 97 2) := r_callS (idx := 92) (by decide +kernel) w_799 cs_97
theorem k_112_41 : Ok M112 41 (oB1 b_if_ne q_ne 88 44) := r_if_ne (off := 47) (by decide +kernel) (by decide +kernel)
theorem k_112_44 : Ok M112 44 (oLI 1 45) := r_iload_n (j := 1) (by decide +kernel) rfl
theorem k_112_45 : Ok M112 45 (oS (gKo (.int 1)) 46) := r_iconst (n := 1) (by decide +kernel) (by decide +kernel)
theorem k_112_46 : Ok M112 46 (oLA 0 47) := r_aload_n (j := 0) (by decide +kernel) rfl
theorem k_112_47 : Ok M112 47 (oCV 5 107 0) := r_callV (idx := 64) (by decide +kernel) w_775 cv_107
theorem k_112_50 : Ok M112 50 (oS (gKo (.int 97)) 52) := r_bipush (n := 97) (by decide +kernel) (by decide +kernel)
theorem k_112_52 : Ok M112 52 (oS (gI2 f_isub) 53) := r_isub (by decide +kernel)
theorem k_112_53 : Ok M112 53 (oS (gI2 f_ishl) 54) := r_ishl (by decide +kernel)
theorem k_112_54 : Ok M112 54 (oS (gI2 f_ior) 55) := r_ior (by decide +kernel)
theorem k_112_55 : Ok M112 55 (oSI 1 3 56) := r_istore_n (j := 1) (by decide +kernel) rfl
theorem k_112_56 : Ok M112 56 (oLA 0 57) := r_aload_n (j := 0) (by decide +kernel) rfl
theorem k_112_57 : Ok M112 57 (oS gDu 58) := r_dup (by decide +kernel)
theorem k_112_58 : Ok M112 58 (oGe 5 10 61) := r_get (idx := 89) (by decide +kernel) cd_5 10 (by decide) w_688 rfl
theorem k_112_61 : Ok M112 61 (oLI 1 62) := r_iload_n (j := 1) (by decide +kernel) rfl
theorem k_112_62 : Ok M112 62 (oS (gI2 f_ior) 63) := r_ior (by decide +kernel)
theorem k_112_63 : Ok M112 63 (oPI 5 10 66) := r_putI (idx := 89) (by decide +kernel) cd_5 10 (by decide) w_688 rfl rfl (by decide +kernel)
theorem k_112_66 : Ok M112 66 (oLA 0 67) := r_aload_n (j := 0) (by decide +kernel) rfl
theorem k_112_67 : Ok M112 67 (oS gDu 68) := r_dup (by decide +kernel)
theorem k_112_68 : Ok M112 68 (oGe 5 6 71) := r_get (idx := 61) (by decide +kernel) cd_5 6 (by decide) w_684 rfl
theorem k_112_71 : Ok M112 71 (oS (gKo (.int 1)) 72) := r_iconst (n := 1) (by decide +kernel) (by decide +kernel)
theorem k_112_72 : Ok M112 72 (oS (gI2 f_iadd) 73) := r_iadd (by decide +kernel)
theorem k_112_73 : Ok M112 73 (oPI 5 6 76) := r_putI (idx := 61) (by decide +kernel) cd_5 6 (by decide) w_684 rfl rfl (by decide +kernel)
theorem k_112_76 : Ok M112 76 (oInc 2 1 3 79) := r_iinc (n := 1) (by decide +kernel) (by decide +kernel)
theorem k_112_79 : Ok M112 79 (oLA 0 80) := r_aload_n (j := 0) (by decide +kernel) rfl
theorem k_112_80 : Ok M112 80 (oS (gKo (.int 1)) 81) := r_iconst (n := 1) (by decide +kernel) (by decide +kernel)
theorem k_112_81 : Ok M112 81 (oLI 2 82) := r_iload_n (j := 2) (by decide +kernel) rfl
theorem k_112_82 : Ok M112 82 (oCV 5 110 2) := r_callV (idx := 82) (by decide +kernel) w_771 cv_110
theorem k_112_85 : Ok M112 85 (oGo 10) := r_goto (off := (-75)) (by decide +kernel) (by decide +kernel)
theorem k_112_88 : Ok M112 88 (oLI 2 89) := r_iload_n (j := 2) (by decide +kernel) rfl
theorem k_112_89 : Ok M112 89 (oB1 b_if_eq q_eq 109 92) := r_if_eq (off := 20) (by decide +kernel) (by decide +kernel)
theorem k_112_92 : Ok M112 92 (oLA 0 93) := r_aload_n (j := 0) (by decide +kernel) rfl
theorem k_112_93 : Ok M112 93 (oCV 5 107 0) := r_callV (idx := 64) (by decide +kernel) w_775 cv_107
theorem k_112_96 : Ok M112 96 (oS gIL 97) := r_i2l (by decide +kernel)
theorem k_112_97 : Ok M112 97 (oK (.long 97) 100) := r_ldc2 (i := 85) (by decide +kernel) w_797
theorem k_112_100 : Ok M112 100 (oK (.long 108) 103) := r_ldc2 (i := 87) (by decide +kernel) w_798
theorem k_112_103 : Ok M112 103 (oCS 96 3) := r_callS (idx := 48) (by decide +kernel) w_744 cs_96
theorem k_112_106 : Ok M112 106 (oB1 b_if_eq q_eq 111 109) := r_if_eq (off := 5) (by decide +kernel) (by decide +kernel)
theorem k_112_109 : Ok M112 109 (oS (gKo (.int 0)) 110) := r_iconst (n := 0) (by decide +kernel) (by decide +kernel)
theorem k_112_110 : Ok M112 110 (oRZ) := r_zreturn rfl (by decide +kernel)
theorem k_112_111 : Ok M112 111 (oLA 0 112) := r_aload_n (j := 0) (by decide +kernel) rfl
theorem k_112_112 : Ok M112 112 (oS (gKo (.int 5)) 113) := r_iconst (n := 5) (by decide +kernel) (by decide +kernel)
theorem k_112_113 : Ok M112 113 (oS (gKo (.int 0)) 114) := r_iconst (n := 0) (by decide +kernel) (by decide +kernel)
theorem k_112_114 : Ok M112 114 (oCV 5 110 2) := r_callV (idx := 82) (by decide +kernel) w_771 cv_110
theorem k_112_117 : Ok M112 117 (oLA 0 118) := r_aload_n (j := 0) (by decide +kernel) rfl
theorem k_112_118 : Ok M112 118 (oGe 5 0 121) := r_get (idx := 7) (by decide +kernel) cd_5 0 (by decide) w_678 rfl
theorem k_112_121 : Ok M112 121 (oS (gKo (.int 9)) 123) := r_bipush (n := 9) (by decide +kernel) (by decide +kernel)
theorem k_112_123 : Ok M112 123 (oLA 0 124) := r_aload_n (j := 0) (by decide +kernel) rfl
theorem k_112_124 : Ok M112 124 (oGe 5 0 127) := r_get (idx := 7) (by decide +kernel) cd_5 0 (by decide) w_678 rfl
theorem k_112_127 : Ok M112 127 (oS (gKo (.int 0)) 128) := r_iconst (n := 0) (by decide +kernel) (by decide +kernel)
theorem k_112_128 : Ok M112 128 (oAI 129) := r_iaload (by decide +kernel)
theorem k_112_129 : Ok M112 129 (oS (gI2 f_iadd) 130) := r_iadd (by decide +kernel)
theorem k_112_130 : Ok M112 130 (oLI 1 131) := r_iload_n (j := 1) (by decide +kernel) rfl
theorem k_112_131 : Ok M112 131 (oAT 132) := r_iastore (by decide +kernel)
theorem k_112_132 : Ok M112 132 (oLA 0 133) := r_aload_n (j := 0) (by decide +kernel) rfl
theorem k_112_133 : Ok M112 133 (oGe 5 0 136) := r_get (idx := 7) (by decide +kernel) cd_5 0 (by decide) w_678 rfl
theorem k_112_136 : Ok M112 136 (oS (gKo (.int 0)) 137) := r_iconst (n := 0) (by decide +kernel) (by decide +kernel)
theorem k_112_137 : Ok M112 137 (oS gD2 138) := r_dup2 (by decide +kernel)
theorem k_112_138 : Ok M112 138 (oAI 139) := r_iaload (by decide +kernel)
theorem k_112_139 : Ok M112 139 (oS (gKo (.int 1)) 140) := r_iconst (n := 1) (by decide +kernel) (by decide +kernel)
theorem k_112_140 : Ok M112 140 (oS (gI2 f_iadd) 141) := r_iadd (by decide +kernel)
theorem k_112_141 : Ok M112 141 (oAT 142) := r_iastore (by decide +kernel)
theorem k_112_142 : Ok M112 142 (oLA 0 143) := r_aload_n (j := 0) (by decide +kernel) rfl
theorem k_112_143 : Ok M112 143 (oS (gKo (.int 59)) 145) := r_bipush (n := 59) (by decide +kernel) (by decide +kernel)
theorem k_112_145 : Ok M112 145 (oCV 5 111 1) := r_callV (idx := 96) (by decide +kernel) w_785 cv_111
theorem k_112_148 : Ok M112 148 (oRZ) := r_zreturn rfl (by decide +kernel)
def B112_0 : List (Nat × aO) := [(0, oS (gKo (.int 0)) 1), (1, oSI 1 3 2), (2, oS (gKo (.int 0)) 3), (3, oSI 2 3 4), (4, oLA 0 5), (5, oS (gKo (.int 1)) 6), (6, oS (gKo (.int 0)) 7), (7, oCV 5 110 2)]
theorem B112_0_ok : ∀ q ∈ B112_0, Ok M112 q.1 q.2 := List.forall_mem_cons.mpr ⟨k_112_0, List.forall_mem_cons.mpr ⟨k_112_1, List.forall_mem_cons.mpr ⟨k_112_2, List.forall_mem_cons.mpr ⟨k_112_3, List.forall_mem_cons.mpr ⟨k_112_4, List.forall_mem_cons.mpr ⟨k_112_5, List.forall_mem_cons.mpr ⟨k_112_6, List.forall_mem_cons.mpr ⟨k_112_7, fun _ h => absurd h List.not_mem_nil⟩⟩⟩⟩⟩⟩⟩⟩
def B112_1 : List (Nat × aO) := [(10, oLA 0 11), (11, oCV 5 107 0), (14, oS gIL 15), (15, oK (.long 97) 18), (18, oK (.long 108) 21), (21, oCS 96 3), (24, oB1 b_if_eq q_eq 88 27), (27, oLA 0 28)]
theorem B112_1_ok : ∀ q ∈ B112_1, Ok M112 q.1 q.2 := List.forall_mem_cons.mpr ⟨k_112_10, List.forall_mem_cons.mpr ⟨k_112_11, List.forall_mem_cons.mpr ⟨k_112_14, List.forall_mem_cons.mpr ⟨k_112_15, List.forall_mem_cons.mpr ⟨k_112_18, List.forall_mem_cons.mpr ⟨k_112_21, List.forall_mem_cons.mpr ⟨k_112_24, List.forall_mem_cons.mpr ⟨k_112_27, fun _ h => absurd h List.not_mem_nil⟩⟩⟩⟩⟩⟩⟩⟩
def B112_2 : List (Nat × aO) := [(28, oGe 5 10 31), (31, oLA 0 32), (32, oCV 5 107 0), (35, oS (gKo (.int 97)) 37), (37, oS (gI2 f_isub) 38), (38, oCS 97 2), (41, oB1 b_if_ne q_ne 88 44), (44, oLI 1 45)]
theorem B112_2_ok : ∀ q ∈ B112_2, Ok M112 q.1 q.2 := List.forall_mem_cons.mpr ⟨k_112_28, List.forall_mem_cons.mpr ⟨k_112_31, List.forall_mem_cons.mpr ⟨k_112_32, List.forall_mem_cons.mpr ⟨k_112_35, List.forall_mem_cons.mpr ⟨k_112_37, List.forall_mem_cons.mpr ⟨k_112_38, List.forall_mem_cons.mpr ⟨k_112_41, List.forall_mem_cons.mpr ⟨k_112_44, fun _ h => absurd h List.not_mem_nil⟩⟩⟩⟩⟩⟩⟩⟩
def B112_3 : List (Nat × aO) := [(45, oS (gKo (.int 1)) 46), (46, oLA 0 47), (47, oCV 5 107 0), (50, oS (gKo (.int 97)) 52), (52, oS (gI2 f_isub) 53), (53, oS (gI2 f_ishl) 54), (54, oS (gI2 f_ior) 55), (55, oSI 1 3 56)]
theorem B112_3_ok : ∀ q ∈ B112_3, Ok M112 q.1 q.2 := List.forall_mem_cons.mpr ⟨k_112_45, List.forall_mem_cons.mpr ⟨k_112_46, List.forall_mem_cons.mpr ⟨k_112_47, List.forall_mem_cons.mpr ⟨k_112_50, List.forall_mem_cons.mpr ⟨k_112_52, List.forall_mem_cons.mpr ⟨k_112_53, List.forall_mem_cons.mpr ⟨k_112_54, List.forall_mem_cons.mpr ⟨k_112_55, fun _ h => absurd h List.not_mem_nil⟩⟩⟩⟩⟩⟩⟩⟩
def B112_4 : List (Nat × aO) := [(56, oLA 0 57), (57, oS gDu 58), (58, oGe 5 10 61), (61, oLI 1 62), (62, oS (gI2 f_ior) 63), (63, oPI 5 10 66), (66, oLA 0 67), (67, oS gDu 68)]
theorem B112_4_ok : ∀ q ∈ B112_4, Ok M112 q.1 q.2 := List.forall_mem_cons.mpr ⟨k_112_56, List.forall_mem_cons.mpr ⟨k_112_57, List.forall_mem_cons.mpr ⟨k_112_58, List.forall_mem_cons.mpr ⟨k_112_61, List.forall_mem_cons.mpr ⟨k_112_62, List.forall_mem_cons.mpr ⟨k_112_63, List.forall_mem_cons.mpr ⟨k_112_66, List.forall_mem_cons.mpr ⟨k_112_67, fun _ h => absurd h List.not_mem_nil⟩⟩⟩⟩⟩⟩⟩⟩
def B112_5 : List (Nat × aO) := [(68, oGe 5 6 71), (71, oS (gKo (.int 1)) 72), (72, oS (gI2 f_iadd) 73), (73, oPI 5 6 76), (76, oInc 2 1 3 79), (79, oLA 0 80), (80, oS (gKo (.int 1)) 81), (81, oLI 2 82)]
theorem B112_5_ok : ∀ q ∈ B112_5, Ok M112 q.1 q.2 := List.forall_mem_cons.mpr ⟨k_112_68, List.forall_mem_cons.mpr ⟨k_112_71, List.forall_mem_cons.mpr ⟨k_112_72, List.forall_mem_cons.mpr ⟨k_112_73, List.forall_mem_cons.mpr ⟨k_112_76, List.forall_mem_cons.mpr ⟨k_112_79, List.forall_mem_cons.mpr ⟨k_112_80, List.forall_mem_cons.mpr ⟨k_112_81, fun _ h => absurd h List.not_mem_nil⟩⟩⟩⟩⟩⟩⟩⟩
def B112_6 : List (Nat × aO) := [(82, oCV 5 110 2), (85, oGo 10), (88, oLI 2 89), (89, oB1 b_if_eq q_eq 109 92), (92, oLA 0 93), (93, oCV 5 107 0), (96, oS gIL 97), (97, oK (.long 97) 100)]
theorem B112_6_ok : ∀ q ∈ B112_6, Ok M112 q.1 q.2 := List.forall_mem_cons.mpr ⟨k_112_82, List.forall_mem_cons.mpr ⟨k_112_85, List.forall_mem_cons.mpr ⟨k_112_88, List.forall_mem_cons.mpr ⟨k_112_89, List.forall_mem_cons.mpr ⟨k_112_92, List.forall_mem_cons.mpr ⟨k_112_93, List.forall_mem_cons.mpr ⟨k_112_96, List.forall_mem_cons.mpr ⟨k_112_97, fun _ h => absurd h List.not_mem_nil⟩⟩⟩⟩⟩⟩⟩⟩
def B112_7 : List (Nat × aO) := [(100, oK (.long 108) 103), (103, oCS 96 3), (106, oB1 b_if_eq q_eq 111 109), (109, oS (gKo (.int 0)) 110), (110, oRZ), (111, oLA 0 112), (112, oS (gKo (.int 5)) 113), (113, oS (gKo (.int 0)) 114)]
theorem B112_7_ok : ∀ q ∈ B112_7, Ok M112 q.1 q.2 := List.forall_mem_cons.mpr ⟨k_112_100, List.forall_mem_cons.mpr ⟨k_112_103, List.forall_mem_cons.mpr ⟨k_112_106, List.forall_mem_cons.mpr ⟨k_112_109, List.forall_mem_cons.mpr ⟨k_112_110, List.forall_mem_cons.mpr ⟨k_112_111, List.forall_mem_cons.mpr ⟨k_112_112, List.forall_mem_cons.mpr ⟨k_112_113, fun _ h => absurd h List.not_mem_nil⟩⟩⟩⟩⟩⟩⟩⟩
def B112_8 : List (Nat × aO) := [(114, oCV 5 110 2), (117, oLA 0 118), (118, oGe 5 0 121), (121, oS (gKo (.int 9)) 123), (123, oLA 0 124), (124, oGe 5 0 127), (127, oS (gKo (.int 0)) 128), (128, oAI 129)]
theorem B112_8_ok : ∀ q ∈ B112_8, Ok M112 q.1 q.2 := List.forall_mem_cons.mpr ⟨k_112_114, List.forall_mem_cons.mpr ⟨k_112_117, List.forall_mem_cons.mpr ⟨k_112_118, List.forall_mem_cons.mpr ⟨k_112_121, List.forall_mem_cons.mpr ⟨k_112_123, List.forall_mem_cons.mpr ⟨k_112_124, List.forall_mem_cons.mpr ⟨k_112_127, List.forall_mem_cons.mpr ⟨k_112_128, fun _ h => absurd h List.not_mem_nil⟩⟩⟩⟩⟩⟩⟩⟩
def B112_9 : List (Nat × aO) := [(129, oS (gI2 f_iadd) 130), (130, oLI 1 131), (131, oAT 132), (132, oLA 0 133), (133, oGe 5 0 136), (136, oS (gKo (.int 0)) 137), (137, oS gD2 138), (138, oAI 139)]
theorem B112_9_ok : ∀ q ∈ B112_9, Ok M112 q.1 q.2 := List.forall_mem_cons.mpr ⟨k_112_129, List.forall_mem_cons.mpr ⟨k_112_130, List.forall_mem_cons.mpr ⟨k_112_131, List.forall_mem_cons.mpr ⟨k_112_132, List.forall_mem_cons.mpr ⟨k_112_133, List.forall_mem_cons.mpr ⟨k_112_136, List.forall_mem_cons.mpr ⟨k_112_137, List.forall_mem_cons.mpr ⟨k_112_138, fun _ h => absurd h List.not_mem_nil⟩⟩⟩⟩⟩⟩⟩⟩
def B112_10 : List (Nat × aO) := [(139, oS (gKo (.int 1)) 140), (140, oS (gI2 f_iadd) 141), (141, oAT 142), (142, oLA 0 143), (143, oS (gKo (.int 59)) 145), (145, oCV 5 111 1), (148, oRZ)]
theorem B112_10_ok : ∀ q ∈ B112_10, Ok M112 q.1 q.2 := List.forall_mem_cons.mpr ⟨k_112_139, List.forall_mem_cons.mpr ⟨k_112_140, List.forall_mem_cons.mpr ⟨k_112_141, List.forall_mem_cons.mpr ⟨k_112_142, List.forall_mem_cons.mpr ⟨k_112_143, List.forall_mem_cons.mpr ⟨k_112_145, List.forall_mem_cons.mpr ⟨k_112_148, fun _ h => absurd h List.not_mem_nil⟩⟩⟩⟩⟩⟩⟩
def P112 : List (Nat × List (Nat × aO)) := [(7, B112_0), (27, B112_1), (44, B112_2), (55, B112_3), (67, B112_4), (81, B112_5), (97, B112_6), (113, B112_7), (128, B112_8), (138, B112_9), (148, B112_10)]
theorem P112_ok : ∀ b ∈ P112, ∀ q ∈ b.2, Ok M112 q.1 q.2 := List.forall_mem_cons.mpr ⟨B112_0_ok, List.forall_mem_cons.mpr ⟨B112_1_ok, List.forall_mem_cons.mpr ⟨B112_2_ok, List.forall_mem_cons.mpr ⟨B112_3_ok, List.forall_mem_cons.mpr ⟨B112_4_ok, List.forall_mem_cons.mpr ⟨B112_5_ok, List.forall_mem_cons.mpr ⟨B112_6_ok, List.forall_mem_cons.mpr ⟨B112_7_ok, List.forall_mem_cons.mpr ⟨B112_8_ok, List.forall_mem_cons.mpr ⟨B112_9_ok, List.forall_mem_cons.mpr ⟨B112_10_ok, fun _ h => absurd h List.not_mem_nil⟩⟩⟩⟩⟩⟩⟩⟩⟩⟩⟩
theorem k_113_0 : Ok M113 0 (oS (gKo (.int 0)) 1) := r_iconst (n := 0) (by decide +kernel) (by decide +kernel)
theorem k_113_1 : Ok M113 1 (oSI 3 4 2) := r_istore_n (j := 3) (by decide +kernel) rfl
theorem k_113_2 : Ok M113 2 (oLA 0 3) := r_aload_n (j := 0) (by decide +kernel) rfl
theorem k_113_3 : Ok M113 3 (oS (gKo (.int 0)) 4) := r_iconst (n := 0) (by decide +kernel) (by decide +kernel)
theorem k_113_4 : Ok M113 4 (oPI 5 11 7) := r_putI (idx := 99) (by decide +kernel) cd_5 11 (by decide) w_689 rfl rfl (by decide +kernel)
theorem k_113_7 : Ok M113 7 (oLA 0 8) := r_aload_n (j := 0) (by decide +kernel) rfl
theorem k_113_8 : Ok M113 8 (oCV 5 107 0) := r_callV (idx := 64) (by decide +kernel) w_775 cv_107
theorem k_113_11 : Ok M113 11 (oS gIL 12) := r_i2l (by decide +kernel)
theorem k_113_12 : Ok M113 12 (oLI 1 13) := r_iload_n (j := 1) (by decide +kernel) rfl
theorem k_113_13 : Ok M113 13 (oS gIL 14) := r_i2l (by decide +kernel)
theorem k_113_14 : Ok M113 14 (oK (.long 57) 17) := r_ldc2 (i := 70) (by decide +kernel) w_810
theorem k_113_17 : Ok M113 17 (oCS 96 3) := r_callS (idx := 48) (by decide +kernel) w_744 cs_96
theorem k_113_20 : Ok M113 20 (oB1 b_if_ne q_ne 25 23) := r_if_ne (off := 5) (by decide +kernel) (by decide +kernel)
theorem k_113_23 : Ok M113 23 (oS (gKo (.int 0)) 24) := r_iconst (n := 0) (by decide +kernel) (by decide +kernel)
theorem k_113_24 : Ok M113 24 (oRZ) := r_zreturn rfl (by decide +kernel)
theorem k_113_25 : Ok M113 25 (oLA 0 26) := r_aload_n (j := 0) (by decide +kernel) rfl
theorem k_113_26 : Ok M113 26 (oCV 5 109 0) := r_callV (idx := 102) (by decide +kernel) w_811 cv_109
theorem k_113_29 : Ok M113 29 (oB1 b_if_eq q_eq 72 32) := r_if_eq (off := 43) (by decide +kernel) (by decide +kernel)
theorem k_113_32 : Ok M113 32 (oLI 3 33) := r_iload_n (j := 3) (by decide +kernel) rfl
theorem k_113_33 : Ok M113 33 (oLI 2 34) := r_iload_n (j := 2) (by decide +kernel) rfl
theorem k_113_34 : Ok M113 34 (oB2 b_icmp_ge q_ge 72 37) := r_icmp_ge (off := 38) (by decide +kernel) (by decide +kernel)
theorem k_113_37 : Ok M113 37 (oLA 0 38) := r_aload_n (j := 0) (by decide +kernel) rfl
theorem k_113_38 : Ok M113 38 (oS (gKo (.int 10)) 40) := r_bipush (n := 10) (by decide +kernel) (by decide +kernel)
theorem k_113_40 : Ok M113 40 (oLA 0 41) := r_aload_n (j := 0) (by decide +kernel) rfl
theorem k_113_41 : Ok M113 41 (oGe 5 11 44) := r_get (idx := 99) (by decide +kernel) cd_5 11 (by decide) w_689 rfl
theorem k_113_44 : Ok M113 44 (oS (gI2 f_imul) 45) := r_imul (by decide +kernel)
theorem k_113_45 : Ok M113 45 (oLA 0 46) := r_aload_n (j := 0) (by decide +kernel) rfl
theorem k_113_46 : Ok M113 46 (oCV 5 107 0) := r_callV (idx := 64) (by decide +kernel) w_775 cv_107
theorem k_113_49 : Ok M113 49 (oS (gI2 f_iadd) 50) := r_iadd (by decide +kernel)
theorem k_113_50 : Ok M113 50 (oS (gKo (.int 48)) 52) := r_bipush (n := 48) (by decide +kernel) (by decide +kernel)
theorem k_113_52 : Ok M113 52 (oS (gI2 f_isub) 53) := r_isub (by decide +kernel)
theorem k_113_53 : Ok M113 53 (oPI 5 11 56) := r_putI (idx := 99) (by decide +kernel) cd_5 11 (by decide) w_689 rfl rfl (by decide +kernel)
theorem k_113_56 : Ok M113 56 (oInc 3 1 4 59) := r_iinc (n := 1) (by decide +kernel) (by decide +kernel)
theorem k_113_59 : Ok M113 59 (oLA 0 60) := r_aload_n (j := 0) (by decide +kernel) rfl
theorem k_113_60 : Ok M113 60 (oS gDu 61) := r_dup (by decide +kernel)
theorem k_113_61 : Ok M113 61 (oGe 5 6 64) := r_get (idx := 61) (by decide +kernel) cd_5 6 (by decide) w_684 rfl
theorem k_113_64 : Ok M113 64 (oS (gKo (.int 1)) 65) := r_iconst (n := 1) (by decide +kernel) (by decide +kernel)
theorem k_113_65 : Ok M113 65 (oS (gI2 f_iadd) 66) := r_iadd (by decide +kernel)
theorem k_113_66 : Ok M113 66 (oPI 5 6 69) := r_putI (idx := 61) (by decide +kernel) cd_5 6 (by decide) w_684 rfl rfl (by decide +kernel)
theorem k_113_69 : Ok M113 69 (oGo 25) := r_goto (off := (-44)) (by decide +kernel) (by decide +kernel)
theorem k_113_72 : Ok M113 72 (oS (gKo (.int 1)) 73) := r_iconst (n := 1) (by decide +kernel) (by decide +kernel)
theorem k_113_73 : Ok M113 73 (oRZ) := r_zreturn rfl (by decide +kernel)
def B113_0 : List (Nat × aO) := [(0, oS (gKo (.int 0)) 1), (1, oSI 3 4 2), (2, oLA 0 3), (3, oS (gKo (.int 0)) 4), (4, oPI 5 11 7), (7, oLA 0 8), (8, oCV 5 107 0), (11, oS gIL 12)]
theorem B113_0_ok : ∀ q ∈ B113_0, Ok M113 q.1 q.2 := List.forall_mem_cons.mpr ⟨k_113_0, List.forall_mem_cons.mpr ⟨k_113_1, List.forall_mem_cons.mpr ⟨k_113_2, List.forall_mem_cons.mpr ⟨k_113_3, List.forall_mem_cons.mpr ⟨k_113_4, List.forall_mem_cons.mpr ⟨k_113_7, List.forall_mem_cons.mpr ⟨k_113_8, List.forall_mem_cons.mpr ⟨k_113_11, fun _ h => absurd h List.not_mem_nil⟩⟩⟩⟩⟩⟩⟩⟩
def B113_1 : List (Nat × aO) := [(12, oLI 1 13), (13, oS gIL 14), (14, oK (.long 57) 17), (17, oCS 96 3), (20, oB1 b_if_ne q_ne 25 23), (23, oS (gKo (.int 0)) 24), (24, oRZ), (25, oLA 0 26)]
theorem B113_1_ok : ∀ q ∈ B113_1, Ok M113 q.1 q.2 := List.forall_mem_cons.mpr ⟨k_113_12, List.forall_mem_cons.mpr ⟨k_113_13, List.forall_mem_cons.mpr ⟨k_113_14, List.forall_mem_cons.mpr ⟨k_113_17, List.forall_mem_cons.mpr ⟨k_113_20, List.forall_mem_cons.mpr ⟨k_113_23, List.forall_mem_cons.mpr ⟨k_113_24, List.forall_mem_cons.mpr ⟨k_113_25, fun _ h => absurd h List.not_mem_nil⟩⟩⟩⟩⟩⟩⟩⟩
def B113_2 : List (Nat × aO) := [(26, oCV 5 109 0), (29, oB1 b_if_eq q_eq 72 32), (32, oLI 3 33), (33, oLI 2 34), (34, oB2 b_icmp_ge q_ge 72 37), (37, oLA 0 38), (38, oS (gKo (.int 10)) 40), (40, oLA 0 41)]
theorem B113_2_ok : ∀ q ∈ B113_2, Ok M113 q.1 q.2 := List.forall_mem_cons.mpr ⟨k_113_26, List.forall_mem_cons.mpr ⟨k_113_29, List.forall_mem_cons.mpr ⟨k_113_32, List.forall_mem_cons.mpr ⟨k_113_33, List.forall_mem_cons.mpr ⟨k_113_34, List.forall_mem_cons.mpr ⟨k_113_37, List.forall_mem_cons.mpr ⟨k_113_38, List.forall_mem_cons.mpr ⟨k_113_40, fun _ h => absurd h List.not_mem_nil⟩⟩⟩⟩⟩⟩⟩⟩
def B113_3 : List (Nat × aO) := [(41, oGe 5 11 44), (44, oS (gI2 f_imul) 45), (45, oLA 0 46), (46, oCV 5 107 0), (49, oS (gI2 f_iadd) 50), (50, oS (gKo (.int 48)) 52), (52, oS (gI2 f_isub) 53), (53, oPI 5 11 56)]
theorem B113_3_ok : ∀ q ∈ B113_3, Ok M113 q.1 q.2 := List.forall_mem_cons.mpr ⟨k_113_41, List.forall_mem_cons.mpr ⟨k_113_44, List.forall_mem_cons.mpr ⟨k_113_45, List.forall_mem_cons.mpr ⟨k_113_46, List.forall_mem_cons.mpr ⟨k_113_49, List.forall_mem_cons.mpr ⟨k_113_50, List.forall_mem_cons.mpr ⟨k_113_52, List.forall_mem_cons.mpr ⟨k_113_53, fun _ h => absurd h List.not_mem_nil⟩⟩⟩⟩⟩⟩⟩⟩
def B113_4 : List (Nat × aO) := [(56, oInc 3 1 4 59), (59, oLA 0 60), (60, oS gDu 61), (61, oGe 5 6 64), (64, oS (gKo (.int 1)) 65), (65, oS (gI2 f_iadd) 66), (66, oPI 5 6 69), (69, oGo 25)]
theorem B113_4_ok : ∀ q ∈ B113_4, Ok M113 q.1 q.2 := List.forall_mem_cons.mpr ⟨k_113_56, List.forall_mem_cons.mpr ⟨k_113_59, List.forall_mem_cons.mpr ⟨k_113_60, List.forall_mem_cons.mpr ⟨k_113_61, List.forall_mem_cons.mpr ⟨k_113_64, List.forall_mem_cons.mpr ⟨k_113_65, List.forall_mem_cons.mpr ⟨k_113_66, List.forall_mem_cons.mpr ⟨k_113_69, fun _ h => absurd h List.not_mem_nil⟩⟩⟩⟩⟩⟩⟩⟩
def B113_5 : List (Nat × aO) := [(72, oS (gKo (.int 1)) 73), (73, oRZ)]
theorem B113_5_ok : ∀ q ∈ B113_5, Ok M113 q.1 q.2 := List.forall_mem_cons.mpr ⟨k_113_72, List.forall_mem_cons.mpr ⟨k_113_73, fun _ h => absurd h List.not_mem_nil⟩⟩
def P113 : List (Nat × List (Nat × aO)) := [(11, B113_0), (25, B113_1), (40, B113_2), (53, B113_3), (69, B113_4), (73, B113_5)]
theorem P113_ok : ∀ b ∈ P113, ∀ q ∈ b.2, Ok M113 q.1 q.2 := List.forall_mem_cons.mpr ⟨B113_0_ok, List.forall_mem_cons.mpr ⟨B113_1_ok, List.forall_mem_cons.mpr ⟨B113_2_ok, List.forall_mem_cons.mpr ⟨B113_3_ok, List.forall_mem_cons.mpr ⟨B113_4_ok, List.forall_mem_cons.mpr ⟨B113_5_ok, fun _ h => absurd h List.not_mem_nil⟩⟩⟩⟩⟩⟩
theorem k_114_0 : Ok M114 0 (oLA 0 1) := r_aload_n (j := 0) (by decide +kernel) rfl
theorem k_114_1 : Ok M114 1 (oGe 5 0 4) := r_get (idx := 7) (by decide +kernel) cd_5 0 (by decide) w_678 rfl
theorem k_114_4 : Ok M114 4 (oS (gKo (.int 1)) 5) := r_iconst (n := 1) (by decide +kernel) (by decide +kernel)
theorem k_114_5 : Ok M114 5 (oAI 6) := r_iaload (by decide +kernel)
theorem k_114_6 : Ok M114 6 (oSI 1 3 7) := r_istore_n (j := 1) (by decide +kernel) rfl
theorem k_114_7 : Ok M114 7 (oLA 0 8) := r_aload_n (j := 0) (by decide +kernel) rfl
theorem k_114_8 : Ok M114 8 (oS (gKo (.int 3)) 9) := r_iconst (n := 3) (by decide +kernel) (by decide +kernel)
theorem k_114_9 : Ok M114 9 (oS (gKo (.int 0)) 10) := r_iconst (n := 0) (by decide +kernel) (by decide +kernel)
theorem k_114_10 : Ok M114 10 (oCV 5 110 2) := r_callV (idx := 82) (by decide +kernel) w_771 cv_110
theorem k_114_13 : Ok M114 13 (oLA 0 14) := r_aload_n (j := 0) (by decide +kernel) rfl
theorem k_114_14 : Ok M114 14 (oS (gKo (.int 49)) 16) := r_bipush (n := 49) (by decide +kernel) (by decide +kernel)
theorem k_114_16 : Ok M114 16 (oS (gKo (.int 3)) 17) := r_iconst (n := 3) (by decide +kernel) (by decide +kernel)
theorem k_114_17 : Ok M114 17 (oCV 5 113 2) := r_callV (idx := 106) (by decide +kernel) w_806 cv_113
theorem k_114_20 : Ok M114 20 (oB1 b_if_eq q_eq 32 23) := r_if_eq (off := 12) (by decide +kernel) (by decide +kernel)
theorem k_114_23 : Ok M114 23 (oLA 0 24) := r_aload_n (j := 0) (by decide +kernel) rfl
theorem k_114_24 : Ok M114 24 (oS (gKo (.int 58)) 26) := r_bipush (n := 58) (by decide +kernel) (by decide +kernel)
theorem k_114_26 : Ok M114 26 (oCV 5 111 1) := r_callV (idx := 96) (by decide +kernel) w_785 cv_111
theorem k_114_29 : Ok M114 29 (oB1 b_if_ne q_ne 34 32) := r_if_ne (off := 5) (by decide +kernel) (by decide +kernel)
theorem k_114_32 : Ok M114 32 (oS (gKo (.int 0)) 33) := r_iconst (n := 0) (by decide +kernel) (by decide +kernel)
theorem k_114_33 : Ok M114 33 (oRZ) := r_zreturn rfl (by decide +kernel)
theorem k_114_34 : Ok M114 34 (oLA 0 35) := r_aload_n (j := 0) (by decide +kernel) rfl
theorem k_114_35 : Ok M114 35 (oGe 5 0 38) := r_get (idx := 7) (by decide +kernel) cd_5 0 (by decide) w_678 rfl
theorem k_114_38 : Ok M114 38 (oS (gKo (.int 27)) 40) := r_bipush (n := 27) (by decide +kernel) (by decide +kernel)
theorem k_114_40 : Ok M114 40 (oLI 1 41) := r_iload_n (j := 1) (by decide +kernel) rfl
theorem k_114_41 : Ok M114 41 (oS (gI2 f_iadd) 42) := r_iadd (by decide +kernel)
theorem k_114_42 : Ok M114 42 (oLA 0 43) := r_aload_n (j := 0) (by decide +kernel) rfl
theorem k_114_43 : Ok M114 43 (oGe 5 11 46) := r_get (idx := 99) (by decide +kernel) cd_5 11 (by decide) w_689 rfl
theorem k_114_46 : Ok M114 46 (oAT 47) := r_iastore (by decide +kernel)
theorem k_114_47 : Ok M114 47 (oS (gKo (.int 0)) 48) := r_iconst (n := 0) (by decide +kernel) (by decide +kernel)
theorem k_114_48 : Ok M114 48 (oSI 2 3 49) := r_istore_n (j := 2) (by decide +kernel) rfl
theorem k_114_49 : Ok M114 49 (oLI 2 50) := r_iload_n (j := 2) (by decide +kernel) rfl
theorem k_114_50 : Ok M114 50 (oLA 0 51) := r_aload_n (j := 0) (by decide +kernel) rfl
theorem k_114_51 : Ok M114 51 (oGe 5 0 54) := r_get (idx := 7) (by decide +kernel) cd_5 0 (by decide) w_678 rfl
theorem k_114_54 : Ok M114 54 (oS (gKo (.int 0)) 55) := r_iconst (n := 0) (by decide +kernel) (by decide +kernel)
theorem k_114_55 : Ok M114 55 (oAI 56) := r_iaload (by decide +kernel)
theorem k_114_56 : Ok M114 56 (oB2 b_icmp_ge q_ge 114 59) := r_icmp_ge (off := 58) (by decide +kernel) (by decide +kernel)
theorem k_114_59 : Ok M114 59 (oLA 0 60) := r_aload_n (j := 0) (by decide +kernel) rfl
theorem k_114_60 : Ok M114 60 (oS (gKo (.int 4)) 61) := r_iconst (n := 4) (by decide +kernel) (by decide +kernel)
theorem k_114_61 : Ok M114 61 (oLI 2 62) := r_iload_n (j := 2) (by decide +kernel) rfl
theorem k_114_62 : Ok M114 62 (oCV 5 110 2) := r_callV (idx := 82) (by decide +kernel) w_771 cv_110
theorem k_114_65 : Ok M114 65 (oLI 2 66) := r_iload_n (j := 2) (by decide +kernel) rfl
theorem k_114_66 : Ok M114 66 (oB1 b_if_le q_le 78 69) := r_if_le (off := 12) (by decide +kernel) (by decide +kernel)
theorem k_114_69 : Ok M114 69 (oLA 0 70) := r_aload_n (j := 0) (by decide +kernel) rfl
theorem k_114_70 : Ok M114 70 (oS (gKo (.int 44)) 72) := r_bipush (n := 44) (by decide +kernel) (by decide +kernel)
theorem k_114_72 : Ok M114 72 (oCV 5 111 1) := r_callV (idx := 96) (by decide +kernel) w_785 cv_111
theorem k_114_75 : Ok M114 75 (oB1 b_if_eq q_eq 88 78) := r_if_eq (off := 13) (by decide +kernel) (by decide +kernel)
theorem k_114_78 : Ok M114 78 (oLA 0 79) := r_aload_n (j := 0) (by decide +kernel) rfl
theorem k_114_79 : Ok M114 79 (oS (gKo (.int 48)) 81) := r_bipush (n := 48) (by decide +kernel) (by decide +kernel)
theorem k_114_81 : Ok M114 81 (oS (gKo (.int 2)) 82) := r_iconst (n := 2) (by decide +kernel) (by decide +kernel)
theorem k_114_82 : Ok M114 82 (oCV 5 113 2) := r_callV (idx := 106) (by decide +kernel) w_806 cv_113
theorem k_114_85 : Ok M114 85 (oB1 b_if_ne q_ne 90 88) := r_if_ne (off := 5) (by decide +kernel) (by decide +kernel)
theorem k_114_88 : Ok M114 88 (oS (gKo (.int 0)) 89) := r_iconst (n := 0) (by decide +kernel) (by decide +kernel)
theorem k_114_89 : Ok M114 89 (oRZ) := r_zreturn rfl (by decide +kernel)
theorem k_114_90 : Ok M114 90 (oLA 0 91) := r_aload_n (j := 0) (by decide +kernel) rfl
theorem k_114_91 : Ok M114 91 (oGe 5 0 94) := r_get (idx := 7) (by decide +kernel) cd_5 0 (by decide) w_678 rfl
theorem k_114_94 : Ok M114 94 (oS (gKo (.int 31)) 96) := r_bipush (n := 31) (by decide +kernel) (by decide +kernel)
theorem k_114_96 : Ok M114 96 (oS (gKo (.int 6)) 98) := r_bipush (n := 6) (by decide +kernel) (by decide +kernel)
theorem k_114_98 : Ok M114 98 (oLI 1 99) := r_iload_n (j := 1) (by decide +kernel) rfl
theorem k_114_99 : Ok M114 99 (oS (gI2 f_imul) 100) := r_imul (by decide +kernel)
theorem k_114_100 : Ok M114 100 (oS (gI2 f_iadd) 101) := r_iadd (by decide +kernel)
theorem k_114_101 : Ok M114 101 (oLI 2 102) := r_iload_n (j := 2) (by decide +kernel) rfl
theorem k_114_102 : Ok M114 102 (oS (gI2 f_iadd) 103) := r_iadd (by decide +kernel)
theorem k_114_103 : Ok M114 103 (oLA 0 104) := r_aload_n (j := 0) (by decide +kernel) rfl
theorem k_114_104 : Ok M114 104 (oGe 5 11 107) := r_get (idx := 99) (by decide +kernel) cd_5 11 (by decide) w_689 rfl
theorem k_114_107 : Ok M114 107 (oAT 108) := r_iastore (by decide +kernel)
theorem k_114_108 : Ok M114 108 (oInc 2 1 3 111) := r_iinc (n := 1) (by decide +kernel) (by decide +kernel)
theorem k_114_111 : Ok M114 111 (oGo 49) := r_goto (off := (-62)) (by decide +kernel) (by decide +kernel)
theorem k_114_114 : Ok M114 114 (oLA 0 115) := r_aload_n (j := 0) (by decide +kernel) rfl
theorem k_114_115 : Ok M114 115 (oS (gKo (.int 5)) 116) := r_iconst (n := 5) (by decide +kernel) (by decide +kernel)
theorem k_114_116 : Ok M114 116 (oS (gKo (.int 0)) 117) := r_iconst (n := 0) (by decide +kernel) (by decide +kernel)
theorem k_114_117 : Ok M114 117 (oCV 5 110 2) := r_callV (idx := 82) (by decide +kernel) w_771 cv_110
theorem k_114_120 : Ok M114 120 (oLA 0 121) := r_aload_n (j := 0) (by decide +kernel) rfl
theorem k_114_121 : Ok M114 121 (oS (gKo (.int 33)) 123) := r_bipush (n := 33) (by decide +kernel) (by decide +kernel)
theorem k_114_123 : Ok M114 123 (oCV 5 111 1) := r_callV (idx := 96) (by decide +kernel) w_785 cv_111
theorem k_114_126 : Ok M114 126 (oSI 2 3 127) := r_istore_n (j := 2) (by decide +kernel) rfl
theorem k_114_127 : Ok M114 127 (oLA 0 128) := r_aload_n (j := 0) (by decide +kernel) rfl
theorem k_114_128 : Ok M114 128 (oGe 5 0 131) := r_get (idx := 7) (by decide +kernel) cd_5 0 (by decide) w_678 rfl
theorem k_114_131 : Ok M114 131 (oS (gKo (.int 7)) 133) := r_bipush (n := 7) (by decide +kernel) (by decide +kernel)
theorem k_114_133 : Ok M114 133 (oS gD2 134) := r_dup2 (by decide +kernel)
theorem k_114_134 : Ok M114 134 (oAI 135) := r_iaload (by decide +kernel)
theorem k_114_135 : Ok M114 135 (oLI 2 136) := r_iload_n (j := 2) (by decide +kernel) rfl
theorem k_114_136 : Ok M114 136 (oB1 b_if_eq q_eq 145 139) := r_if_eq (off := 9) (by decide +kernel) (by decide +kernel)
theorem k_114_139 : Ok M114 139 (oS (gKo (.int 1)) 140) := r_iconst (n := 1) (by decide +kernel) (by decide +kernel)
theorem k_114_140 : Ok M114 140 (oLI 1 141) := r_iload_n (j := 1) (by decide +kernel) rfl
theorem k_114_141 : Ok M114 141 (oS (gI2 f_ishl) 142) := r_ishl (by decide +kernel)
theorem k_114_142 : Ok M114 142 (oGo 146) := r_goto (off := 4) (by decide +kernel) (by decide +kernel)
theorem k_114_145 : Ok M114 145 (oS (gKo (.int 0)) 146) := r_iconst (n := 0) (by decide +kernel) (by decide +kernel)
theorem k_114_146 : Ok M114 146 (oS (gI2 f_ior) 147) := r_ior (by decide +kernel)
theorem k_114_147 : Ok M114 147 (oAT 148) := r_iastore (by decide +kernel)
theorem k_114_148 : Ok M114 148 (oLA 0 149) := r_aload_n (j := 0) (by decide +kernel) rfl
theorem k_114_149 : Ok M114 149 (oGe 5 0 152) := r_get (idx := 7) (by decide +kernel) cd_5 0 (by decide) w_678 rfl
theorem k_114_152 : Ok M114 152 (oS (gKo (.int 1)) 153) := r_iconst (n := 1) (by decide +kernel) (by decide +kernel)
theorem k_114_153 : Ok M114 153 (oS gD2 154) := r_dup2 (by decide +kernel)
theorem k_114_154 : Ok M114 154 (oAI 155) := r_iaload (by decide +kernel)
theorem k_114_155 : Ok M114 155 (oS (gKo (.int 1)) 156) := r_iconst (n := 1) (by decide +kernel) (by decide +kernel)
theorem k_114_156 : Ok M114 156 (oS (gI2 f_iadd) 157) := r_iadd (by decide +kernel)
theorem k_114_157 : Ok M114 157 (oAT 158) := r_iastore (by decide +kernel)
theorem k_114_158 : Ok M114 158 (oLA 0 159) := r_aload_n (j := 0) (by decide +kernel) rfl
theorem k_114_159 : Ok M114 159 (oS (gKo (.int 59)) 161) := r_bipush (n := 59) (by decide +kernel) (by decide +kernel)
theorem k_114_161 : Ok M114 161 (oCV 5 111 1) := r_callV (idx := 96) (by decide +kernel) w_785 cv_111
theorem k_114_164 : Ok M114 164 (oRZ) := r_zreturn rfl (by decide +kernel)
def B114_0 : List (Nat × aO) := [(0, oLA 0 1), (1, oGe 5 0 4), (4, oS (gKo (.int 1)) 5), (5, oAI 6), (6, oSI 1 3 7), (7, oLA 0 8), (8, oS (gKo (.int 3)) 9), (9, oS (gKo (.int 0)) 10)]
theorem B114_0_ok : ∀ q ∈ B114_0, Ok M114 q.1 q.2 := List.forall_mem_cons.mpr ⟨k_114_0, List.forall_mem_cons.mpr ⟨k_114_1, List.forall_mem_cons.mpr ⟨k_114_4, List.forall_mem_cons.mpr ⟨k_114_5, List.forall_mem_cons.mpr ⟨k_114_6, List.forall_mem_cons.mpr ⟨k_114_7, List.forall_mem_cons.mpr ⟨k_114_8, List.forall_mem_cons.mpr ⟨k_114_9, fun _ h => absurd h List.not_mem_nil⟩⟩⟩⟩⟩⟩⟩⟩
def B114_1 : List (Nat × aO) := [(10, oCV 5 110 2), (13, oLA 0 14), (14, oS (gKo (.int 49)) 16), (16, oS (gKo (.int 3)) 17), (17, oCV 5 113 2), (20, oB1 b_if_eq q_eq 32 23), (23, oLA 0 24), (24, oS (gKo (.int 58)) 26)]
theorem B114_1_ok : ∀ q ∈ B114_1, Ok M114 q.1 q.2 := List.forall_mem_cons.mpr ⟨k_114_10, List.forall_mem_cons.mpr ⟨k_114_13, List.forall_mem_cons.mpr ⟨k_114_14, List.forall_mem_cons.mpr ⟨k_114_16, List.forall_mem_cons.mpr ⟨k_114_17, List.forall_mem_cons.mpr ⟨k_114_20, List.forall_mem_cons.mpr ⟨k_114_23, List.forall_mem_cons.mpr ⟨k_114_24, fun _ h => absurd h List.not_mem_nil⟩⟩⟩⟩⟩⟩⟩⟩
def B114_2 : List (Nat × aO) := [(26, oCV 5 111 1), (29, oB1 b_if_ne q_ne 34 32), (32, oS (gKo (.int 0)) 33), (33, oRZ), (34, oLA 0 35), (35, oGe 5 0 38), (38, oS (gKo (.int 27)) 40), (40, oLI 1 41)]
theorem B114_2_ok : ∀ q ∈ B114_2, Ok M114 q.1 q.2 := List.forall_mem_cons.mpr ⟨k_114_26, List.forall_mem_cons.mpr ⟨k_114_29, List.forall_mem_cons.mpr ⟨k_114_32, List.forall_mem_cons.mpr ⟨k_114_33, List.forall_mem_cons.mpr ⟨k_114_34, List.forall_mem_cons.mpr ⟨k_114_35, List.forall_mem_cons.mpr ⟨k_114_38, List.forall_mem_cons.mpr ⟨k_114_40, fun _ h => absurd h List.not_mem_nil⟩⟩⟩⟩⟩⟩⟩⟩
def B114_3 : List (Nat × aO) := [(41, oS (gI2 f_iadd) 42), (42, oLA 0 43), (43, oGe 5 11 46), (46, oAT 47), (47, oS (gKo (.int 0)) 48), (48, oSI 2 3 49), (49, oLI 2 50), (50, oLA 0 51)]
theorem B114_3_ok : ∀ q ∈ B114_3, Ok M114 q.1 q.2 := List.forall_mem_cons.mpr ⟨k_114_41, List.forall_mem_cons.mpr ⟨k_114_42, List.forall_mem_cons.mpr ⟨k_114_43, List.forall_mem_cons.mpr ⟨k_114_46, List.forall_mem_cons.mpr ⟨k_114_47, List.forall_mem_cons.mpr ⟨k_114_48, List.forall_mem_cons.mpr ⟨k_114_49, List.forall_mem_cons.mpr ⟨k_114_50, fun _ h => absurd h List.not_mem_nil⟩⟩⟩⟩⟩⟩⟩⟩
def B114_4 : List (Nat × aO) := [(51, oGe 5 0 54), (54, oS (gKo (.int 0)) 55), (55, oAI 56), (56, oB2 b_icmp_ge q_ge 114 59), (59, oLA 0 60), (60, oS (gKo (.int 4)) 61), (61, oLI 2 62), (62, oCV 5 110 2)]
theorem B114_4_ok : ∀ q ∈ B114_4, Ok M114 q.1 q.2 := List.forall_mem_cons.mpr ⟨k_114_51, List.forall_mem_cons.mpr ⟨k_114_54, List.forall_mem_cons.mpr ⟨k_114_55, List.forall_mem_cons.mpr ⟨k_114_56, List.forall_mem_cons.mpr ⟨k_114_59, List.forall_mem_cons.mpr ⟨k_114_60, List.forall_mem_cons.mpr ⟨k_114_61, List.forall_mem_cons.mpr ⟨k_114_62, fun _ h => absurd h List.not_mem_nil⟩⟩⟩⟩⟩⟩⟩⟩
def B114_5 : List (Nat × aO) := [(65, oLI 2 66), (66, oB1 b_if_le q_le 78 69), (69, oLA 0 70), (70, oS (gKo (.int 44)) 72), (72, oCV 5 111 1), (75, oB1 b_if_eq q_eq 88 78), (78, oLA 0 79), (79, oS (gKo (.int 48)) 81)]
theorem B114_5_ok : ∀ q ∈ B114_5, Ok M114 q.1 q.2 := List.forall_mem_cons.mpr ⟨k_114_65, List.forall_mem_cons.mpr ⟨k_114_66, List.forall_mem_cons.mpr ⟨k_114_69, List.forall_mem_cons.mpr ⟨k_114_70, List.forall_mem_cons.mpr ⟨k_114_72, List.forall_mem_cons.mpr ⟨k_114_75, List.forall_mem_cons.mpr ⟨k_114_78, List.forall_mem_cons.mpr ⟨k_114_79, fun _ h => absurd h List.not_mem_nil⟩⟩⟩⟩⟩⟩⟩⟩
def B114_6 : List (Nat × aO) := [(81, oS (gKo (.int 2)) 82), (82, oCV 5 113 2), (85, oB1 b_if_ne q_ne 90 88), (88, oS (gKo (.int 0)) 89), (89, oRZ), (90, oLA 0 91), (91, oGe 5 0 94), (94, oS (gKo (.int 31)) 96)]
theorem B114_6_ok : ∀ q ∈ B114_6, Ok M114 q.1 q.2 := List.forall_mem_cons.mpr ⟨k_114_81, List.forall_mem_cons.mpr ⟨k_114_82, List.forall_mem_cons.mpr ⟨k_114_85, List.forall_mem_cons.mpr ⟨k_114_88, List.forall_mem_cons.mpr ⟨k_114_89, List.forall_mem_cons.mpr ⟨k_114_90, List.forall_mem_cons.mpr ⟨k_114_91, List.forall_mem_cons.mpr ⟨k_114_94, fun _ h => absurd h List.not_mem_nil⟩⟩⟩⟩⟩⟩⟩⟩
def B114_7 : List (Nat × aO) := [(96, oS (gKo (.int 6)) 98), (98, oLI 1 99), (99, oS (gI2 f_imul) 100), (100, oS (gI2 f_iadd) 101), (101, oLI 2 102), (102, oS (gI2 f_iadd) 103), (103, oLA 0 104), (104, oGe 5 11 107)]
theorem B114_7_ok : ∀ q ∈ B114_7, Ok M114 q.1 q.2 := List.forall_mem_cons.mpr ⟨k_114_96, List.forall_mem_cons.mpr ⟨k_114_98, List.forall_mem_cons.mpr ⟨k_114_99, List.forall_mem_cons.mpr ⟨k_114_100, List.forall_mem_cons.mpr ⟨k_114_101, List.forall_mem_cons.mpr ⟨k_114_102, List.forall_mem_cons.mpr ⟨k_114_103, List.forall_mem_cons.mpr ⟨k_114_104, fun _ h => absurd h List.not_mem_nil⟩⟩⟩⟩⟩⟩⟩⟩
def B114_8 : List (Nat × aO) := [(107, oAT 108), (108, oInc 2 1 3 111), (111, oGo 49), (114, oLA 0 115), (115, oS (gKo (.int 5)) 116), (116, oS (gKo (.int 0)) 117), (117, oCV 5 110 2), (120, oLA 0 121)]
theorem B114_8_ok : ∀ q ∈ B114_8, Ok M114 q.1 q.2 := List.forall_mem_cons.mpr ⟨k_114_107, List.forall_mem_cons.mpr ⟨k_114_108, List.forall_mem_cons.mpr ⟨k_114_111, List.forall_mem_cons.mpr ⟨k_114_114, List.forall_mem_cons.mpr ⟨k_114_115, List.forall_mem_cons.mpr ⟨k_114_116, List.forall_mem_cons.mpr ⟨k_114_117, List.forall_mem_cons.mpr ⟨k_114_120, fun _ h => absurd h List.not_mem_nil⟩⟩⟩⟩⟩⟩⟩⟩
def B114_9 : List (Nat × aO) := [(121, oS (gKo (.int 33)) 123), (123, oCV 5 111 1), (126, oSI 2 3 127), (127, oLA 0 128), (128, oGe 5 0 131), (131, oS (gKo (.int 7)) 133), (133, oS gD2 134), (134, oAI 135)]
theorem B114_9_ok : ∀ q ∈ B114_9, Ok M114 q.1 q.2 := List.forall_mem_cons.mpr ⟨k_114_121, List.forall_mem_cons.mpr ⟨k_114_123, List.forall_mem_cons.mpr ⟨k_114_126, List.forall_mem_cons.mpr ⟨k_114_127, List.forall_mem_cons.mpr ⟨k_114_128, List.forall_mem_cons.mpr ⟨k_114_131, List.forall_mem_cons.mpr ⟨k_114_133, List.forall_mem_cons.mpr ⟨k_114_134, fun _ h => absurd h List.not_mem_nil⟩⟩⟩⟩⟩⟩⟩⟩
def B114_10 : List (Nat × aO) := [(135, oLI 2 136), (136, oB1 b_if_eq q_eq 145 139), (139, oS (gKo (.int 1)) 140), (140, oLI 1 141), (141, oS (gI2 f_ishl) 142), (142, oGo 146), (145, oS (gKo (.int 0)) 146), (146, oS (gI2 f_ior) 147)]
theorem B114_10_ok : ∀ q ∈ B114_10, Ok M114 q.1 q.2 := List.forall_mem_cons.mpr ⟨k_114_135, List.forall_mem_cons.mpr ⟨k_114_136, List.forall_mem_cons.mpr ⟨k_114_139, List.forall_mem_cons.mpr ⟨k_114_140, List.forall_mem_cons.mpr ⟨k_114_141, List.forall_mem_cons.mpr ⟨k_114_142, List.forall_mem_cons.mpr ⟨k_114_145, List.forall_mem_cons.mpr ⟨k_114_146, fun _ h => absurd h List.not_mem_nil⟩⟩⟩⟩⟩⟩⟩⟩
def B114_11 : List (Nat × aO) := [(147, oAT 148), (148, oLA 0 149), (149, oGe 5 0 152), (152, oS (gKo (.int 1)) 153), (153, oS gD2 154), (154, oAI 155), (155, oS (gKo (.int 1)) 156), (156, oS (gI2 f_iadd) 157)]
theorem B114_11_ok : ∀ q ∈ B114_11, Ok M114 q.1 q.2 := List.forall_mem_cons.mpr ⟨k_114_147, List.forall_mem_cons.mpr ⟨k_114_148, List.forall_mem_cons.mpr ⟨k_114_149, List.forall_mem_cons.mpr ⟨k_114_152, List.forall_mem_cons.mpr ⟨k_114_153, List.forall_mem_cons.mpr ⟨k_114_154, List.forall_mem_cons.mpr ⟨k_114_155, List.forall_mem_cons.mpr ⟨k_114_156, fun _ h => absurd h List.not_mem_nil⟩⟩⟩⟩⟩⟩⟩⟩
def B114_12 : List (Nat × aO) := [(157, oAT 158), (158, oLA 0 159), (159, oS (gKo (.int 59)) 161), (161, oCV 5 111 1), (164, oRZ)]
theorem B114_12_ok : ∀ q ∈ B114_12, Ok M114 q.1 q.2 := List.forall_mem_cons.mpr ⟨k_114_157, List.forall_mem_cons.mpr ⟨k_114_158, List.forall_mem_cons.mpr ⟨k_114_159, List.forall_mem_cons.mpr ⟨k_114_161, List.forall_mem_cons.mpr ⟨k_114_164, fun _ h => absurd h List.not_mem_nil⟩⟩⟩⟩⟩
def P114 : List (Nat × List (Nat × aO)) := [(9, B114_0), (24, B114_1), (40, B114_2), (50, B114_3), (62, B114_4), (79, B114_5), (94, B114_6), (104, B114_7), (120, B114_8), (134, B114_9), (146, B114_10), (156, B114_11), (164, B114_12)]
theorem P114_ok : ∀ b ∈ P114, ∀ q ∈ b.2, Ok M114 q.1 q.2 := List.forall_mem_cons.mpr ⟨B114_0_ok, List.forall_mem_cons.mpr ⟨B114_1_ok, List.forall_mem_cons.mpr ⟨B114_2_ok, List.forall_mem_cons.mpr ⟨B114_3_ok, List.forall_mem_cons.mpr ⟨B114_4_ok, List.forall_mem_cons.mpr ⟨B114_5_ok, List.forall_mem_cons.mpr ⟨B114_6_ok, List.forall_mem_cons.mpr ⟨B114_7_ok, List.forall_mem_cons.mpr ⟨B114_8_ok, List.forall_mem_cons.mpr ⟨B114_9_ok, List.forall_mem_cons.mpr ⟨B114_10_ok, List.forall_mem_cons.mpr ⟨B114_11_ok, List.forall_mem_cons.mpr ⟨B114_12_ok, fun _ h => absurd h List.not_mem_nil⟩⟩⟩⟩⟩⟩⟩⟩⟩⟩⟩⟩⟩
