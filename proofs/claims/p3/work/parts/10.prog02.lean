theorem k_36_0 : Ok M36 0 (oLA 0 1) := r_aload_n (j := 0) (by decide +kernel) rfl
theorem k_36_1 : Ok M36 1 (oLA 1 2) := r_aload_n (j := 1) (by decide +kernel) rfl
theorem k_36_2 : Ok M36 2 (oLI 2 3) := r_iload_n (j := 2) (by decide +kernel) rfl
theorem k_36_3 : Ok M36 3 (oLA 1 4) := r_aload_n (j := 1) (by decide +kernel) rfl
theorem k_36_4 : Ok M36 4 (oCV 0 11 0) := r_callV (idx := 25) (by decide +kernel) w_556 cv_11
theorem k_36_7 : Ok M36 7 (oLA 1 8) := r_aload_n (j := 1) (by decide +kernel) rfl
theorem k_36_8 : Ok M36 8 (oGe 0 16 11) := r_get (idx := 29) (by decide +kernel) cd_0 16 (by decide) w_166 rfl
theorem k_36_11 : Ok M36 11 (oLA 1 12) := r_aload_n (j := 1) (by decide +kernel) rfl
theorem k_36_12 : Ok M36 12 (oGe 0 15 15) := r_get (idx := 41) (by decide +kernel) cd_0 15 (by decide) w_163 rfl
theorem k_36_15 : Ok M36 15 (oS (gKo (.int 0)) 16) := r_iconst (n := 0) (by decide +kernel) (by decide +kernel)
theorem k_36_16 : Ok M36 16 (oCV 1 42 6) := r_callV (idx := 48) (by decide +kernel) w_574 cv_42
theorem k_36_19 : Ok M36 19 (oSL 4 6 21) := r_lstore (by decide +kernel)
theorem k_36_21 : Ok M36 21 (oLA 1 22) := r_aload_n (j := 1) (by decide +kernel) rfl
theorem k_36_22 : Ok M36 22 (oLI 3 23) := r_iload_n (j := 3) (by decide +kernel) rfl
theorem k_36_23 : Ok M36 23 (oCV 0 8 1) := r_callV (idx := 19) (by decide +kernel) w_555 cv_8
theorem k_36_26 : Ok M36 26 (oLL 4 28) := r_lload (by decide +kernel)
theorem k_36_28 : Ok M36 28 (oLI 3 29) := r_iload_n (j := 3) (by decide +kernel) rfl
theorem k_36_29 : Ok M36 29 (oCS 37 2) := r_callS (idx := 37) (by decide +kernel) w_580 cs_37
theorem k_36_32 : Ok M36 32 (oS (gI2 f_iadd) 33) := r_iadd (by decide +kernel)
theorem k_36_33 : Ok M36 33 (oRI) := r_ireturn rfl (by decide +kernel)
def B36_0 : List (Nat × aO) := [(0, oLA 0 1), (1, oLA 1 2), (2, oLI 2 3), (3, oLA 1 4), (4, oCV 0 11 0), (7, oLA 1 8), (8, oGe 0 16 11), (11, oLA 1 12)]
theorem B36_0_ok : ∀ q ∈ B36_0, Ok M36 q.1 q.2 := List.forall_mem_cons.mpr ⟨k_36_0, List.forall_mem_cons.mpr ⟨k_36_1, List.forall_mem_cons.mpr ⟨k_36_2, List.forall_mem_cons.mpr ⟨k_36_3, List.forall_mem_cons.mpr ⟨k_36_4, List.forall_mem_cons.mpr ⟨k_36_7, List.forall_mem_cons.mpr ⟨k_36_8, List.forall_mem_cons.mpr ⟨k_36_11, fun _ h => absurd h List.not_mem_nil⟩⟩⟩⟩⟩⟩⟩⟩
def B36_1 : List (Nat × aO) := [(12, oGe 0 15 15), (15, oS (gKo (.int 0)) 16), (16, oCV 1 42 6), (19, oSL 4 6 21), (21, oLA 1 22), (22, oLI 3 23), (23, oCV 0 8 1), (26, oLL 4 28)]
theorem B36_1_ok : ∀ q ∈ B36_1, Ok M36 q.1 q.2 := List.forall_mem_cons.mpr ⟨k_36_12, List.forall_mem_cons.mpr ⟨k_36_15, List.forall_mem_cons.mpr ⟨k_36_16, List.forall_mem_cons.mpr ⟨k_36_19, List.forall_mem_cons.mpr ⟨k_36_21, List.forall_mem_cons.mpr ⟨k_36_22, List.forall_mem_cons.mpr ⟨k_36_23, List.forall_mem_cons.mpr ⟨k_36_26, fun _ h => absurd h List.not_mem_nil⟩⟩⟩⟩⟩⟩⟩⟩
def B36_2 : List (Nat × aO) := [(28, oLI 3 29), (29, oCS 37 2), (32, oS (gI2 f_iadd) 33), (33, oRI)]
theorem B36_2_ok : ∀ q ∈ B36_2, Ok M36 q.1 q.2 := List.forall_mem_cons.mpr ⟨k_36_28, List.forall_mem_cons.mpr ⟨k_36_29, List.forall_mem_cons.mpr ⟨k_36_32, List.forall_mem_cons.mpr ⟨k_36_33, fun _ h => absurd h List.not_mem_nil⟩⟩⟩⟩
def P36 : List (Nat × List (Nat × aO)) := [(11, B36_0), (26, B36_1), (33, B36_2)]
theorem P36_ok : ∀ b ∈ P36, ∀ q ∈ b.2, Ok M36 q.1 q.2 := List.forall_mem_cons.mpr ⟨B36_0_ok, List.forall_mem_cons.mpr ⟨B36_1_ok, List.forall_mem_cons.mpr ⟨B36_2_ok, fun _ h => absurd h List.not_mem_nil⟩⟩⟩
theorem k_37_0 : Ok M37 0 (oLL 0 1) := r_lload_n (j := 0) (by decide +kernel) rfl
theorem k_37_1 : Ok M37 1 (oS (gKo (.int 10)) 3) := r_bipush (n := 10) (by decide +kernel) (by decide +kernel)
theorem k_37_3 : Ok M37 3 (oLI 2 4) := r_iload_n (j := 2) (by decide +kernel) rfl
theorem k_37_4 : Ok M37 4 (oS (gI2 f_imul) 5) := r_imul (by decide +kernel)
theorem k_37_5 : Ok M37 5 (oS (gLS f_lshr) 6) := r_lshr (by decide +kernel)
theorem k_37_6 : Ok M37 6 (oK (.long 1023) 9) := r_ldc2 (i := 55) (by decide +kernel) w_583
theorem k_37_9 : Ok M37 9 (oS (gL2 f_land) 10) := r_land (by decide +kernel)
theorem k_37_10 : Ok M37 10 (oS gLI 11) := r_l2i (by decide +kernel)
theorem k_37_11 : Ok M37 11 (oRI) := r_ireturn rfl (by decide +kernel)
def B37_0 : List (Nat × aO) := [(0, oLL 0 1), (1, oS (gKo (.int 10)) 3), (3, oLI 2 4), (4, oS (gI2 f_imul) 5), (5, oS (gLS f_lshr) 6), (6, oK (.long 1023) 9), (9, oS (gL2 f_land) 10), (10, oS gLI 11)]
theorem B37_0_ok : ∀ q ∈ B37_0, Ok M37 q.1 q.2 := List.forall_mem_cons.mpr ⟨k_37_0, List.forall_mem_cons.mpr ⟨k_37_1, List.forall_mem_cons.mpr ⟨k_37_3, List.forall_mem_cons.mpr ⟨k_37_4, List.forall_mem_cons.mpr ⟨k_37_5, List.forall_mem_cons.mpr ⟨k_37_6, List.forall_mem_cons.mpr ⟨k_37_9, List.forall_mem_cons.mpr ⟨k_37_10, fun _ h => absurd h List.not_mem_nil⟩⟩⟩⟩⟩⟩⟩⟩
def B37_1 : List (Nat × aO) := [(11, oRI)]
theorem B37_1_ok : ∀ q ∈ B37_1, Ok M37 q.1 q.2 := List.forall_mem_cons.mpr ⟨k_37_11, fun _ h => absurd h List.not_mem_nil⟩
def P37 : List (Nat × List (Nat × aO)) := [(10, B37_0), (11, B37_1)]
theorem P37_ok : ∀ b ∈ P37, ∀ q ∈ b.2, Ok M37 q.1 q.2 := List.forall_mem_cons.mpr ⟨B37_0_ok, List.forall_mem_cons.mpr ⟨B37_1_ok, fun _ h => absurd h List.not_mem_nil⟩⟩
theorem k_38_0 : Ok M38 0 (oLL 0 1) := r_lload_n (j := 0) (by decide +kernel) rfl
theorem k_38_1 : Ok M38 1 (oS (gKo (.int 40)) 3) := r_bipush (n := 40) (by decide +kernel) (by decide +kernel)
theorem k_38_3 : Ok M38 3 (oS (gLS f_lshr) 4) := r_lshr (by decide +kernel)
theorem k_38_4 : Ok M38 4 (oK (.long 7) 7) := r_ldc2 (i := 57) (by decide +kernel) w_595
theorem k_38_7 : Ok M38 7 (oS (gL2 f_land) 8) := r_land (by decide +kernel)
theorem k_38_8 : Ok M38 8 (oS gLI 9) := r_l2i (by decide +kernel)
theorem k_38_9 : Ok M38 9 (oS (gKo (.int 1)) 10) := r_iconst (n := 1) (by decide +kernel) (by decide +kernel)
theorem k_38_10 : Ok M38 10 (oS (gI2 f_isub) 11) := r_isub (by decide +kernel)
theorem k_38_11 : Ok M38 11 (oRI) := r_ireturn rfl (by decide +kernel)
def B38_0 : List (Nat × aO) := [(0, oLL 0 1), (1, oS (gKo (.int 40)) 3), (3, oS (gLS f_lshr) 4), (4, oK (.long 7) 7), (7, oS (gL2 f_land) 8), (8, oS gLI 9), (9, oS (gKo (.int 1)) 10), (10, oS (gI2 f_isub) 11)]
theorem B38_0_ok : ∀ q ∈ B38_0, Ok M38 q.1 q.2 := List.forall_mem_cons.mpr ⟨k_38_0, List.forall_mem_cons.mpr ⟨k_38_1, List.forall_mem_cons.mpr ⟨k_38_3, List.forall_mem_cons.mpr ⟨k_38_4, List.forall_mem_cons.mpr ⟨k_38_7, List.forall_mem_cons.mpr ⟨k_38_8, List.forall_mem_cons.mpr ⟨k_38_9, List.forall_mem_cons.mpr ⟨k_38_10, fun _ h => absurd h List.not_mem_nil⟩⟩⟩⟩⟩⟩⟩⟩
def B38_1 : List (Nat × aO) := [(11, oRI)]
theorem B38_1_ok : ∀ q ∈ B38_1, Ok M38 q.1 q.2 := List.forall_mem_cons.mpr ⟨k_38_11, fun _ h => absurd h List.not_mem_nil⟩
def P38 : List (Nat × List (Nat × aO)) := [(10, B38_0), (11, B38_1)]
theorem P38_ok : ∀ b ∈ P38, ∀ q ∈ b.2, Ok M38 q.1 q.2 := List.forall_mem_cons.mpr ⟨B38_0_ok, List.forall_mem_cons.mpr ⟨B38_1_ok, fun _ h => absurd h List.not_mem_nil⟩⟩
theorem k_39_0 : Ok M39 0 (oLL 0 1) := r_lload_n (j := 0) (by decide +kernel) rfl
theorem k_39_1 : Ok M39 1 (oS (gKo (.int 43)) 3) := r_bipush (n := 43) (by decide +kernel) (by decide +kernel)
theorem k_39_3 : Ok M39 3 (oS (gLS f_lshr) 4) := r_lshr (by decide +kernel)
theorem k_39_4 : Ok M39 4 (oK (.long 7) 7) := r_ldc2 (i := 57) (by decide +kernel) w_595
theorem k_39_7 : Ok M39 7 (oS (gL2 f_land) 8) := r_land (by decide +kernel)
theorem k_39_8 : Ok M39 8 (oS gLI 9) := r_l2i (by decide +kernel)
theorem k_39_9 : Ok M39 9 (oS (gKo (.int 1)) 10) := r_iconst (n := 1) (by decide +kernel) (by decide +kernel)
theorem k_39_10 : Ok M39 10 (oS (gI2 f_isub) 11) := r_isub (by decide +kernel)
theorem k_39_11 : Ok M39 11 (oRI) := r_ireturn rfl (by decide +kernel)
def B39_0 : List (Nat × aO) := [(0, oLL 0 1), (1, oS (gKo (.int 43)) 3), (3, oS (gLS f_lshr) 4), (4, oK (.long 7) 7), (7, oS (gL2 f_land) 8), (8, oS gLI 9), (9, oS (gKo (.int 1)) 10), (10, oS (gI2 f_isub) 11)]
theorem B39_0_ok : ∀ q ∈ B39_0, Ok M39 q.1 q.2 := List.forall_mem_cons.mpr ⟨k_39_0, List.forall_mem_cons.mpr ⟨k_39_1, List.forall_mem_cons.mpr ⟨k_39_3, List.forall_mem_cons.mpr ⟨k_39_4, List.forall_mem_cons.mpr ⟨k_39_7, List.forall_mem_cons.mpr ⟨k_39_8, List.forall_mem_cons.mpr ⟨k_39_9, List.forall_mem_cons.mpr ⟨k_39_10, fun _ h => absurd h List.not_mem_nil⟩⟩⟩⟩⟩⟩⟩⟩
def B39_1 : List (Nat × aO) := [(11, oRI)]
theorem B39_1_ok : ∀ q ∈ B39_1, Ok M39 q.1 q.2 := List.forall_mem_cons.mpr ⟨k_39_11, fun _ h => absurd h List.not_mem_nil⟩
def P39 : List (Nat × List (Nat × aO)) := [(10, B39_0), (11, B39_1)]
theorem P39_ok : ∀ b ∈ P39, ∀ q ∈ b.2, Ok M39 q.1 q.2 := List.forall_mem_cons.mpr ⟨B39_0_ok, List.forall_mem_cons.mpr ⟨B39_1_ok, fun _ h => absurd h List.not_mem_nil⟩⟩
theorem k_40_0 : Ok M40 0 (oLA 0 1) := r_aload_n (j := 0) (by decide +kernel) rfl
theorem k_40_1 : Ok M40 1 (oGe 1 0 4) := r_get (idx := 11) (by decide +kernel) cd_1 0 (by decide) w_236 rfl
theorem k_40_4 : Ok M40 4 (oLI 1 5) := r_iload_n (j := 1) (by decide +kernel) rfl
theorem k_40_5 : Ok M40 5 (oS (gKo (.int 63)) 7) := r_bipush (n := 63) (by decide +kernel) (by decide +kernel)
theorem k_40_7 : Ok M40 7 (oS (gI2 f_iand) 8) := r_iand (by decide +kernel)
theorem k_40_8 : Ok M40 8 (oAI 9) := r_iaload (by decide +kernel)
theorem k_40_9 : Ok M40 9 (oLA 0 10) := r_aload_n (j := 0) (by decide +kernel) rfl
theorem k_40_10 : Ok M40 10 (oGe 1 0 13) := r_get (idx := 11) (by decide +kernel) cd_1 0 (by decide) w_236 rfl
theorem k_40_13 : Ok M40 13 (oLI 2 14) := r_iload_n (j := 2) (by decide +kernel) rfl
theorem k_40_14 : Ok M40 14 (oLI 1 15) := r_iload_n (j := 1) (by decide +kernel) rfl
theorem k_40_15 : Ok M40 15 (oS (gI2 f_iand) 16) := r_iand (by decide +kernel)
theorem k_40_16 : Ok M40 16 (oS (gKo (.int 63)) 18) := r_bipush (n := 63) (by decide +kernel) (by decide +kernel)
theorem k_40_18 : Ok M40 18 (oS (gI2 f_iand) 19) := r_iand (by decide +kernel)
theorem k_40_19 : Ok M40 19 (oAI 20) := r_iaload (by decide +kernel)
theorem k_40_20 : Ok M40 20 (oS (gI2 f_iadd) 21) := r_iadd (by decide +kernel)
theorem k_40_21 : Ok M40 21 (oSI 4 5 23) := r_istore (by decide +kernel)
theorem k_40_23 : Ok M40 23 (oLI 4 25) := r_iload (by decide +kernel)
theorem k_40_25 : Ok M40 25 (oS (gKo (.int 16)) 27) := r_bipush (n := 16) (by decide +kernel) (by decide +kernel)
theorem k_40_27 : Ok M40 27 (oS (gI2 f_imul) 28) := r_imul (by decide +kernel)
theorem k_40_28 : Ok M40 28 (oLI 3 29) := r_iload_n (j := 3) (by decide +kernel) rfl
theorem k_40_29 : Ok M40 29 (oS (gKo (.int 15)) 31) := r_bipush (n := 15) (by decide +kernel) (by decide +kernel)
theorem k_40_31 : Ok M40 31 (oS (gI2 f_iand) 32) := r_iand (by decide +kernel)
theorem k_40_32 : Ok M40 32 (oS (gI2 f_iadd) 33) := r_iadd (by decide +kernel)
theorem k_40_33 : Ok M40 33 (oRI) := r_ireturn rfl (by decide +kernel)
def B40_0 : List (Nat × aO) := [(0, oLA 0 1), (1, oGe 1 0 4), (4, oLI 1 5), (5, oS (gKo (.int 63)) 7), (7, oS (gI2 f_iand) 8), (8, oAI 9), (9, oLA 0 10), (10, oGe 1 0 13)]
theorem B40_0_ok : ∀ q ∈ B40_0, Ok M40 q.1 q.2 := List.forall_mem_cons.mpr ⟨k_40_0, List.forall_mem_cons.mpr ⟨k_40_1, List.forall_mem_cons.mpr ⟨k_40_4, List.forall_mem_cons.mpr ⟨k_40_5, List.forall_mem_cons.mpr ⟨k_40_7, List.forall_mem_cons.mpr ⟨k_40_8, List.forall_mem_cons.mpr ⟨k_40_9, List.forall_mem_cons.mpr ⟨k_40_10, fun _ h => absurd h List.not_mem_nil⟩⟩⟩⟩⟩⟩⟩⟩
def B40_1 : List (Nat × aO) := [(13, oLI 2 14), (14, oLI 1 15), (15, oS (gI2 f_iand) 16), (16, oS (gKo (.int 63)) 18), (18, oS (gI2 f_iand) 19), (19, oAI 20), (20, oS (gI2 f_iadd) 21), (21, oSI 4 5 23)]
theorem B40_1_ok : ∀ q ∈ B40_1, Ok M40 q.1 q.2 := List.forall_mem_cons.mpr ⟨k_40_13, List.forall_mem_cons.mpr ⟨k_40_14, List.forall_mem_cons.mpr ⟨k_40_15, List.forall_mem_cons.mpr ⟨k_40_16, List.forall_mem_cons.mpr ⟨k_40_18, List.forall_mem_cons.mpr ⟨k_40_19, List.forall_mem_cons.mpr ⟨k_40_20, List.forall_mem_cons.mpr ⟨k_40_21, fun _ h => absurd h List.not_mem_nil⟩⟩⟩⟩⟩⟩⟩⟩
def B40_2 : List (Nat × aO) := [(23, oLI 4 25), (25, oS (gKo (.int 16)) 27), (27, oS (gI2 f_imul) 28), (28, oLI 3 29), (29, oS (gKo (.int 15)) 31), (31, oS (gI2 f_iand) 32), (32, oS (gI2 f_iadd) 33), (33, oRI)]
theorem B40_2_ok : ∀ q ∈ B40_2, Ok M40 q.1 q.2 := List.forall_mem_cons.mpr ⟨k_40_23, List.forall_mem_cons.mpr ⟨k_40_25, List.forall_mem_cons.mpr ⟨k_40_27, List.forall_mem_cons.mpr ⟨k_40_28, List.forall_mem_cons.mpr ⟨k_40_29, List.forall_mem_cons.mpr ⟨k_40_31, List.forall_mem_cons.mpr ⟨k_40_32, List.forall_mem_cons.mpr ⟨k_40_33, fun _ h => absurd h List.not_mem_nil⟩⟩⟩⟩⟩⟩⟩⟩
def P40 : List (Nat × List (Nat × aO)) := [(10, B40_0), (21, B40_1), (33, B40_2)]
theorem P40_ok : ∀ b ∈ P40, ∀ q ∈ b.2, Ok M40 q.1 q.2 := List.forall_mem_cons.mpr ⟨B40_0_ok, List.forall_mem_cons.mpr ⟨B40_1_ok, List.forall_mem_cons.mpr ⟨B40_2_ok, fun _ h => absurd h List.not_mem_nil⟩⟩⟩
theorem k_41_0 : Ok M41 0 (oLA 1 1) := r_aload_n (j := 1) (by decide +kernel) rfl
theorem k_41_1 : Ok M41 1 (oGe 0 0 4) := r_get (idx := 59) (by decide +kernel) cd_0 0 (by decide) w_132 rfl
theorem k_41_4 : Ok M41 4 (oLI 2 5) := r_iload_n (j := 2) (by decide +kernel) rfl
theorem k_41_5 : Ok M41 5 (oCS 168 1) := r_callS (idx := 62) (by decide +kernel) w_561 cs_168
theorem k_41_8 : Ok M41 8 (oS (gI2 f_isub) 9) := r_isub (by decide +kernel)
theorem k_41_9 : Ok M41 9 (oSI 6 15 11) := r_istore (by decide +kernel)
theorem k_41_11 : Ok M41 11 (oLA 1 12) := r_aload_n (j := 1) (by decide +kernel) rfl
theorem k_41_12 : Ok M41 12 (oLI 6 14) := r_iload (by decide +kernel)
theorem k_41_14 : Ok M41 14 (oCV 0 6 1) := r_callV (idx := 67) (by decide +kernel) w_567 cv_6
theorem k_41_17 : Ok M41 17 (oSI 7 15 19) := r_istore (by decide +kernel)
theorem k_41_19 : Ok M41 19 (oLI 7 21) := r_iload (by decide +kernel)
theorem k_41_21 : Ok M41 21 (oS (gKo (.int (-1))) 22) := r_iconst (n := (-1)) (by decide +kernel) (by decide +kernel)
theorem k_41_22 : Ok M41 22 (oB2 b_icmp_eq q_eq 32 25) := r_icmp_eq (off := 10) (by decide +kernel) (by decide +kernel)
theorem k_41_25 : Ok M41 25 (oLI 5 27) := r_iload (by decide +kernel)
theorem k_41_27 : Ok M41 27 (oS (gKo (.int 10)) 29) := r_bipush (n := 10) (by decide +kernel) (by decide +kernel)
theorem k_41_29 : Ok M41 29 (oB2 b_icmp_le q_le 34 32) := r_icmp_le (off := 5) (by decide +kernel) (by decide +kernel)
theorem k_41_32 : Ok M41 32 (oS (gKo (.long 0)) 33) := r_lconst (n := 0) (by decide +kernel) (by decide +kernel)
theorem k_41_33 : Ok M41 33 (oRL) := r_lreturn rfl (by decide +kernel)
theorem k_41_34 : Ok M41 34 (oLI 4 36) := r_iload (by decide +kernel)
theorem k_41_36 : Ok M41 36 (oLA 1 37) := r_aload_n (j := 1) (by decide +kernel) rfl
theorem k_41_37 : Ok M41 37 (oGe 0 9 40) := r_get (idx := 70) (by decide +kernel) cd_0 9 (by decide) w_152 rfl
theorem k_41_40 : Ok M41 40 (oLI 6 42) := r_iload (by decide +kernel)
theorem k_41_42 : Ok M41 42 (oAI 43) := r_iaload (by decide +kernel)
theorem k_41_43 : Ok M41 43 (oS (gI2 f_iand) 44) := r_iand (by decide +kernel)
theorem k_41_44 : Ok M41 44 (oSI 8 15 46) := r_istore (by decide +kernel)
theorem k_41_46 : Ok M41 46 (oLA 0 47) := r_aload_n (j := 0) (by decide +kernel) rfl
theorem k_41_47 : Ok M41 47 (oLI 2 48) := r_iload_n (j := 2) (by decide +kernel) rfl
theorem k_41_48 : Ok M41 48 (oLI 3 49) := r_iload_n (j := 3) (by decide +kernel) rfl
theorem k_41_49 : Ok M41 49 (oLI 8 51) := r_iload (by decide +kernel)
theorem k_41_51 : Ok M41 51 (oCV 1 40 3) := r_callV (idx := 73) (by decide +kernel) w_568 cv_40
theorem k_41_54 : Ok M41 54 (oSI 9 15 56) := r_istore (by decide +kernel)
theorem k_41_56 : Ok M41 56 (oLA 0 57) := r_aload_n (j := 0) (by decide +kernel) rfl
theorem k_41_57 : Ok M41 57 (oGe 1 1 60) := r_get (idx := 15) (by decide +kernel) cd_1 1 (by decide) w_237 rfl
theorem k_41_60 : Ok M41 60 (oLI 9 62) := r_iload (by decide +kernel)
theorem k_41_62 : Ok M41 62 (oAL 63) := r_laload (by decide +kernel)
theorem k_41_63 : Ok M41 63 (oS (gKo (.int 46)) 65) := r_bipush (n := 46) (by decide +kernel) (by decide +kernel)
theorem k_41_65 : Ok M41 65 (oS (gLS f_lshr) 66) := r_lshr (by decide +kernel)
theorem k_41_66 : Ok M41 66 (oLA 1 67) := r_aload_n (j := 1) (by decide +kernel) rfl
theorem k_41_67 : Ok M41 67 (oGe 0 7 70) := r_get (idx := 77) (by decide +kernel) cd_0 7 (by decide) w_148 rfl
theorem k_41_70 : Ok M41 70 (oS gIL 71) := r_i2l (by decide +kernel)
theorem k_41_71 : Ok M41 71 (oS gCm 72) := r_lcmp (by decide +kernel)
theorem k_41_72 : Ok M41 72 (oB1 b_if_ne q_ne 87 75) := r_if_ne (off := 15) (by decide +kernel) (by decide +kernel)
theorem k_41_75 : Ok M41 75 (oLA 0 76) := r_aload_n (j := 0) (by decide +kernel) rfl
theorem k_41_76 : Ok M41 76 (oGe 1 1 79) := r_get (idx := 15) (by decide +kernel) cd_1 1 (by decide) w_237 rfl
theorem k_41_79 : Ok M41 79 (oLI 9 81) := r_iload (by decide +kernel)
theorem k_41_81 : Ok M41 81 (oAL 82) := r_laload (by decide +kernel)
theorem k_41_82 : Ok M41 82 (oK (.long 70368744177663) 85) := r_ldc2 (i := 80) (by decide +kernel) w_572
theorem k_41_85 : Ok M41 85 (oS (gL2 f_land) 86) := r_land (by decide +kernel)
theorem k_41_86 : Ok M41 86 (oRL) := r_lreturn rfl (by decide +kernel)
theorem k_41_87 : Ok M41 87 (oS (gKo (.long 0)) 88) := r_lconst (n := 0) (by decide +kernel) (by decide +kernel)
theorem k_41_88 : Ok M41 88 (oSL 10 15 90) := r_lstore (by decide +kernel)
theorem k_41_90 : Ok M41 90 (oS (gKo (.int 0)) 91) := r_iconst (n := 0) (by decide +kernel) (by decide +kernel)
theorem k_41_91 : Ok M41 91 (oSI 12 15 93) := r_istore (by decide +kernel)
theorem k_41_93 : Ok M41 93 (oLI 12 95) := r_iload (by decide +kernel)
theorem k_41_95 : Ok M41 95 (oLA 1 96) := r_aload_n (j := 1) (by decide +kernel) rfl
theorem k_41_96 : Ok M41 96 (oGe 0 0 99) := r_get (idx := 59) (by decide +kernel) cd_0 0 (by decide) w_132 rfl
theorem k_41_99 : Ok M41 99 (oB2 b_icmp_ge q_ge 165 102) := r_icmp_ge (off := 66) (by decide +kernel) (by decide +kernel)
theorem k_41_102 : Ok M41 102 (oLI 2 103) := r_iload_n (j := 2) (by decide +kernel) rfl
theorem k_41_103 : Ok M41 103 (oLI 3 104) := r_iload_n (j := 3) (by decide +kernel) rfl
theorem k_41_104 : Ok M41 104 (oS (gKo (.int (-1))) 105) := r_iconst (n := (-1)) (by decide +kernel) (by decide +kernel)
theorem k_41_105 : Ok M41 105 (oS (gI2 f_ixor) 106) := r_ixor (by decide +kernel)
theorem k_41_106 : Ok M41 106 (oS (gI2 f_iand) 107) := r_iand (by decide +kernel)
theorem k_41_107 : Ok M41 107 (oLI 12 109) := r_iload (by decide +kernel)
theorem k_41_109 : Ok M41 109 (oCS 94 2) := r_callSN (idx := 82) (host := RX4) (by decide +kernel) (fun _ _ h => h.2.2.2.2.2.2) cs_94
theorem k_41_112 : Ok M41 112 (oS (gKo (.int 1)) 113) := r_iconst (n := 1) (by decide +kernel) (by decide +kernel)
theorem k_41_113 : Ok M41 113 (oB2 b_icmp_ne q_ne 159 116) := r_icmp_ne (off := 46) (by decide +kernel) (by decide +kernel)
theorem k_41_116 : Ok M41 116 (oLA 0 117) := r_aload_n (j := 0) (by decide +kernel) rfl
theorem k_41_117 : Ok M41 117 (oLA 1 118) := r_aload_n (j := 1) (by decide +kernel) rfl
theorem k_41_118 : Ok M41 118 (oLI 12 120) := r_iload (by decide +kernel)
theorem k_41_120 : Ok M41 120 (oLI 2 121) := r_iload_n (j := 2) (by decide +kernel) rfl
theorem k_41_121 : Ok M41 121 (oLI 3 122) := r_iload_n (j := 3) (by decide +kernel) rfl
theorem k_41_122 : Ok M41 122 (oLI 8 124) := r_iload (by decide +kernel)
theorem k_41_124 : Ok M41 124 (oLI 5 126) := r_iload (by decide +kernel)
theorem k_41_126 : Ok M41 126 (oCV 1 42 6) := r_callV (idx := 48) (by decide +kernel) w_574 cv_42
theorem k_41_129 : Ok M41 129 (oSL 13 15 131) := r_lstore (by decide +kernel)
theorem k_41_131 : Ok M41 131 (oLL 10 133) := r_lload (by decide +kernel)
theorem k_41_133 : Ok M41 133 (oS (gKo (.long 0)) 134) := r_lconst (n := 0) (by decide +kernel) (by decide +kernel)
theorem k_41_134 : Ok M41 134 (oS gCm 135) := r_lcmp (by decide +kernel)
theorem k_41_135 : Ok M41 135 (oB1 b_if_eq q_eq 155 138) := r_if_eq (off := 20) (by decide +kernel) (by decide +kernel)
theorem k_41_138 : Ok M41 138 (oLL 13 140) := r_lload (by decide +kernel)
theorem k_41_140 : Ok M41 140 (oLI 7 142) := r_iload (by decide +kernel)
theorem k_41_142 : Ok M41 142 (oCS 37 2) := r_callS (idx := 37) (by decide +kernel) w_580 cs_37
theorem k_41_145 : Ok M41 145 (oLL 10 147) := r_lload (by decide +kernel)
theorem k_41_147 : Ok M41 147 (oLI 7 149) := r_iload (by decide +kernel)
theorem k_41_149 : Ok M41 149 (oCS 37 2) := r_callS (idx := 37) (by decide +kernel) w_580 cs_37
theorem k_41_152 : Ok M41 152 (oB2 b_icmp_le q_le 159 155) := r_icmp_le (off := 7) (by decide +kernel) (by decide +kernel)
theorem k_41_155 : Ok M41 155 (oLL 13 157) := r_lload (by decide +kernel)
theorem k_41_157 : Ok M41 157 (oSL 10 15 159) := r_lstore (by decide +kernel)
theorem k_41_159 : Ok M41 159 (oInc 12 1 15 162) := r_iinc (n := 1) (by decide +kernel) (by decide +kernel)
theorem k_41_162 : Ok M41 162 (oGo 93) := r_goto (off := (-69)) (by decide +kernel) (by decide +kernel)
theorem k_41_165 : Ok M41 165 (oLA 0 166) := r_aload_n (j := 0) (by decide +kernel) rfl
theorem k_41_166 : Ok M41 166 (oGe 1 1 169) := r_get (idx := 15) (by decide +kernel) cd_1 1 (by decide) w_237 rfl
theorem k_41_169 : Ok M41 169 (oLI 9 171) := r_iload (by decide +kernel)
theorem k_41_171 : Ok M41 171 (oLA 1 172) := r_aload_n (j := 1) (by decide +kernel) rfl
theorem k_41_172 : Ok M41 172 (oGe 0 7 175) := r_get (idx := 77) (by decide +kernel) cd_0 7 (by decide) w_148 rfl
theorem k_41_175 : Ok M41 175 (oS gIL 176) := r_i2l (by decide +kernel)
theorem k_41_176 : Ok M41 176 (oS (gKo (.int 46)) 178) := r_bipush (n := 46) (by decide +kernel) (by decide +kernel)
theorem k_41_178 : Ok M41 178 (oS (gLS f_lshl) 179) := r_lshl (by decide +kernel)
theorem k_41_179 : Ok M41 179 (oLL 10 181) := r_lload (by decide +kernel)
theorem k_41_181 : Ok M41 181 (oS (gL2 f_lor) 182) := r_lor (by decide +kernel)
theorem k_41_182 : Ok M41 182 (oAJ 183) := r_lastore (by decide +kernel)
theorem k_41_183 : Ok M41 183 (oLL 10 185) := r_lload (by decide +kernel)
theorem k_41_185 : Ok M41 185 (oRL) := r_lreturn rfl (by decide +kernel)
def B41_0 : List (Nat × aO) := [(0, oLA 1 1), (1, oGe 0 0 4), (4, oLI 2 5), (5, oCS 168 1), (8, oS (gI2 f_isub) 9), (9, oSI 6 15 11), (11, oLA 1 12), (12, oLI 6 14)]
theorem B41_0_ok : ∀ q ∈ B41_0, Ok M41 q.1 q.2 := List.forall_mem_cons.mpr ⟨k_41_0, List.forall_mem_cons.mpr ⟨k_41_1, List.forall_mem_cons.mpr ⟨k_41_4, List.forall_mem_cons.mpr ⟨k_41_5, List.forall_mem_cons.mpr ⟨k_41_8, List.forall_mem_cons.mpr ⟨k_41_9, List.forall_mem_cons.mpr ⟨k_41_11, List.forall_mem_cons.mpr ⟨k_41_12, fun _ h => absurd h List.not_mem_nil⟩⟩⟩⟩⟩⟩⟩⟩
def B41_1 : List (Nat × aO) := [(14, oCV 0 6 1), (17, oSI 7 15 19), (19, oLI 7 21), (21, oS (gKo (.int (-1))) 22), (22, oB2 b_icmp_eq q_eq 32 25), (25, oLI 5 27), (27, oS (gKo (.int 10)) 29), (29, oB2 b_icmp_le q_le 34 32)]
theorem B41_1_ok : ∀ q ∈ B41_1, Ok M41 q.1 q.2 := List.forall_mem_cons.mpr ⟨k_41_14, List.forall_mem_cons.mpr ⟨k_41_17, List.forall_mem_cons.mpr ⟨k_41_19, List.forall_mem_cons.mpr ⟨k_41_21, List.forall_mem_cons.mpr ⟨k_41_22, List.forall_mem_cons.mpr ⟨k_41_25, List.forall_mem_cons.mpr ⟨k_41_27, List.forall_mem_cons.mpr ⟨k_41_29, fun _ h => absurd h List.not_mem_nil⟩⟩⟩⟩⟩⟩⟩⟩
def B41_2 : List (Nat × aO) := [(32, oS (gKo (.long 0)) 33), (33, oRL), (34, oLI 4 36), (36, oLA 1 37), (37, oGe 0 9 40), (40, oLI 6 42), (42, oAI 43), (43, oS (gI2 f_iand) 44)]
theorem B41_2_ok : ∀ q ∈ B41_2, Ok M41 q.1 q.2 := List.forall_mem_cons.mpr ⟨k_41_32, List.forall_mem_cons.mpr ⟨k_41_33, List.forall_mem_cons.mpr ⟨k_41_34, List.forall_mem_cons.mpr ⟨k_41_36, List.forall_mem_cons.mpr ⟨k_41_37, List.forall_mem_cons.mpr ⟨k_41_40, List.forall_mem_cons.mpr ⟨k_41_42, List.forall_mem_cons.mpr ⟨k_41_43, fun _ h => absurd h List.not_mem_nil⟩⟩⟩⟩⟩⟩⟩⟩
def B41_3 : List (Nat × aO) := [(44, oSI 8 15 46), (46, oLA 0 47), (47, oLI 2 48), (48, oLI 3 49), (49, oLI 8 51), (51, oCV 1 40 3), (54, oSI 9 15 56), (56, oLA 0 57)]
theorem B41_3_ok : ∀ q ∈ B41_3, Ok M41 q.1 q.2 := List.forall_mem_cons.mpr ⟨k_41_44, List.forall_mem_cons.mpr ⟨k_41_46, List.forall_mem_cons.mpr ⟨k_41_47, List.forall_mem_cons.mpr ⟨k_41_48, List.forall_mem_cons.mpr ⟨k_41_49, List.forall_mem_cons.mpr ⟨k_41_51, List.forall_mem_cons.mpr ⟨k_41_54, List.forall_mem_cons.mpr ⟨k_41_56, fun _ h => absurd h List.not_mem_nil⟩⟩⟩⟩⟩⟩⟩⟩
def B41_4 : List (Nat × aO) := [(57, oGe 1 1 60), (60, oLI 9 62), (62, oAL 63), (63, oS (gKo (.int 46)) 65), (65, oS (gLS f_lshr) 66), (66, oLA 1 67), (67, oGe 0 7 70), (70, oS gIL 71)]
theorem B41_4_ok : ∀ q ∈ B41_4, Ok M41 q.1 q.2 := List.forall_mem_cons.mpr ⟨k_41_57, List.forall_mem_cons.mpr ⟨k_41_60, List.forall_mem_cons.mpr ⟨k_41_62, List.forall_mem_cons.mpr ⟨k_41_63, List.forall_mem_cons.mpr ⟨k_41_65, List.forall_mem_cons.mpr ⟨k_41_66, List.forall_mem_cons.mpr ⟨k_41_67, List.forall_mem_cons.mpr ⟨k_41_70, fun _ h => absurd h List.not_mem_nil⟩⟩⟩⟩⟩⟩⟩⟩
def B41_5 : List (Nat × aO) := [(71, oS gCm 72), (72, oB1 b_if_ne q_ne 87 75), (75, oLA 0 76), (76, oGe 1 1 79), (79, oLI 9 81), (81, oAL 82), (82, oK (.long 70368744177663) 85), (85, oS (gL2 f_land) 86)]
theorem B41_5_ok : ∀ q ∈ B41_5, Ok M41 q.1 q.2 := List.forall_mem_cons.mpr ⟨k_41_71, List.forall_mem_cons.mpr ⟨k_41_72, List.forall_mem_cons.mpr ⟨k_41_75, List.forall_mem_cons.mpr ⟨k_41_76, List.forall_mem_cons.mpr ⟨k_41_79, List.forall_mem_cons.mpr ⟨k_41_81, List.forall_mem_cons.mpr ⟨k_41_82, List.forall_mem_cons.mpr ⟨k_41_85, fun _ h => absurd h List.not_mem_nil⟩⟩⟩⟩⟩⟩⟩⟩
def B41_6 : List (Nat × aO) := [(86, oRL), (87, oS (gKo (.long 0)) 88), (88, oSL 10 15 90), (90, oS (gKo (.int 0)) 91), (91, oSI 12 15 93), (93, oLI 12 95), (95, oLA 1 96), (96, oGe 0 0 99)]
theorem B41_6_ok : ∀ q ∈ B41_6, Ok M41 q.1 q.2 := List.forall_mem_cons.mpr ⟨k_41_86, List.forall_mem_cons.mpr ⟨k_41_87, List.forall_mem_cons.mpr ⟨k_41_88, List.forall_mem_cons.mpr ⟨k_41_90, List.forall_mem_cons.mpr ⟨k_41_91, List.forall_mem_cons.mpr ⟨k_41_93, List.forall_mem_cons.mpr ⟨k_41_95, List.forall_mem_cons.mpr ⟨k_41_96, fun _ h => absurd h List.not_mem_nil⟩⟩⟩⟩⟩⟩⟩⟩
def B41_7 : List (Nat × aO) := [(99, oB2 b_icmp_ge q_ge 165 102), (102, oLI 2 103), (103, oLI 3 104), (104, oS (gKo (.int (-1))) 105), (105, oS (gI2 f_ixor) 106), (106, oS (gI2 f_iand) 107), (107, oLI 12 109), (109, oCS 94 2)]
theorem B41_7_ok : ∀ q ∈ B41_7, Ok M41 q.1 q.2 := List.forall_mem_cons.mpr ⟨k_41_99, List.forall_mem_cons.mpr ⟨k_41_102, List.forall_mem_cons.mpr ⟨k_41_103, List.forall_mem_cons.mpr ⟨k_41_104, List.forall_mem_cons.mpr ⟨k_41_105, List.forall_mem_cons.mpr ⟨k_41_106, List.forall_mem_cons.mpr ⟨k_41_107, List.forall_mem_cons.mpr ⟨k_41_109, fun _ h => absurd h List.not_mem_nil⟩⟩⟩⟩⟩⟩⟩⟩
def B41_8 : List (Nat × aO) := [(112, oS (gKo (.int 1)) 113), (113, oB2 b_icmp_ne q_ne 159 116), (116, oLA 0 117), (117, oLA 1 118), (118, oLI 12 120), (120, oLI 2 121), (121, oLI 3 122), (122, oLI 8 124)]
theorem B41_8_ok : ∀ q ∈ B41_8, Ok M41 q.1 q.2 := List.forall_mem_cons.mpr ⟨k_41_112, List.forall_mem_cons.mpr ⟨k_41_113, List.forall_mem_cons.mpr ⟨k_41_116, List.forall_mem_cons.mpr ⟨k_41_117, List.forall_mem_cons.mpr ⟨k_41_118, List.forall_mem_cons.mpr ⟨k_41_120, List.forall_mem_cons.mpr ⟨k_41_121, List.forall_mem_cons.mpr ⟨k_41_122, fun _ h => absurd h List.not_mem_nil⟩⟩⟩⟩⟩⟩⟩⟩
def B41_9 : List (Nat × aO) := [(124, oLI 5 126), (126, oCV 1 42 6), (129, oSL 13 15 131), (131, oLL 10 133), (133, oS (gKo (.long 0)) 134), (134, oS gCm 135), (135, oB1 b_if_eq q_eq 155 138), (138, oLL 13 140)]
theorem B41_9_ok : ∀ q ∈ B41_9, Ok M41 q.1 q.2 := List.forall_mem_cons.mpr ⟨k_41_124, List.forall_mem_cons.mpr ⟨k_41_126, List.forall_mem_cons.mpr ⟨k_41_129, List.forall_mem_cons.mpr ⟨k_41_131, List.forall_mem_cons.mpr ⟨k_41_133, List.forall_mem_cons.mpr ⟨k_41_134, List.forall_mem_cons.mpr ⟨k_41_135, List.forall_mem_cons.mpr ⟨k_41_138, fun _ h => absurd h List.not_mem_nil⟩⟩⟩⟩⟩⟩⟩⟩
def B41_10 : List (Nat × aO) := [(140, oLI 7 142), (142, oCS 37 2), (145, oLL 10 147), (147, oLI 7 149), (149, oCS 37 2), (152, oB2 b_icmp_le q_le 159 155), (155, oLL 13 157), (157, oSL 10 15 159)]
theorem B41_10_ok : ∀ q ∈ B41_10, Ok M41 q.1 q.2 := List.forall_mem_cons.mpr ⟨k_41_140, List.forall_mem_cons.mpr ⟨k_41_142, List.forall_mem_cons.mpr ⟨k_41_145, List.forall_mem_cons.mpr ⟨k_41_147, List.forall_mem_cons.mpr ⟨k_41_149, List.forall_mem_cons.mpr ⟨k_41_152, List.forall_mem_cons.mpr ⟨k_41_155, List.forall_mem_cons.mpr ⟨k_41_157, fun _ h => absurd h List.not_mem_nil⟩⟩⟩⟩⟩⟩⟩⟩
def B41_11 : List (Nat × aO) := [(159, oInc 12 1 15 162), (162, oGo 93), (165, oLA 0 166), (166, oGe 1 1 169), (169, oLI 9 171), (171, oLA 1 172), (172, oGe 0 7 175), (175, oS gIL 176)]
theorem B41_11_ok : ∀ q ∈ B41_11, Ok M41 q.1 q.2 := List.forall_mem_cons.mpr ⟨k_41_159, List.forall_mem_cons.mpr ⟨k_41_162, List.forall_mem_cons.mpr ⟨k_41_165, List.forall_mem_cons.mpr ⟨k_41_166, List.forall_mem_cons.mpr ⟨k_41_169, List.forall_mem_cons.mpr ⟨k_41_171, List.forall_mem_cons.mpr ⟨k_41_172, List.forall_mem_cons.mpr ⟨k_41_175, fun _ h => absurd h List.not_mem_nil⟩⟩⟩⟩⟩⟩⟩⟩
def B41_12 : List (Nat × aO) := [(176, oS (gKo (.int 46)) 178), (178, oS (gLS f_lshl) 179), (179, oLL 10 181), (181, oS (gL2 f_lor) 182), (182, oAJ 183), (183, oLL 10 185), (185, oRL)]
theorem B41_12_ok : ∀ q ∈ B41_12, Ok M41 q.1 q.2 := List.forall_mem_cons.mpr ⟨k_41_176, List.forall_mem_cons.mpr ⟨k_41_178, List.forall_mem_cons.mpr ⟨k_41_179, List.forall_mem_cons.mpr ⟨k_41_181, List.forall_mem_cons.mpr ⟨k_41_182, List.forall_mem_cons.mpr ⟨k_41_183, List.forall_mem_cons.mpr ⟨k_41_185, fun _ h => absurd h List.not_mem_nil⟩⟩⟩⟩⟩⟩⟩
def P41 : List (Nat × List (Nat × aO)) := [(12, B41_0), (29, B41_1), (43, B41_2), (56, B41_3), (70, B41_4), (85, B41_5), (96, B41_6), (109, B41_7), (122, B41_8), (138, B41_9), (157, B41_10), (175, B41_11), (185, B41_12)]
theorem P41_ok : ∀ b ∈ P41, ∀ q ∈ b.2, Ok M41 q.1 q.2 := List.forall_mem_cons.mpr ⟨B41_0_ok, List.forall_mem_cons.mpr ⟨B41_1_ok, List.forall_mem_cons.mpr ⟨B41_2_ok, List.forall_mem_cons.mpr ⟨B41_3_ok, List.forall_mem_cons.mpr ⟨B41_4_ok, List.forall_mem_cons.mpr ⟨B41_5_ok, List.forall_mem_cons.mpr ⟨B41_6_ok, List.forall_mem_cons.mpr ⟨B41_7_ok, List.forall_mem_cons.mpr ⟨B41_8_ok, List.forall_mem_cons.mpr ⟨B41_9_ok, List.forall_mem_cons.mpr ⟨B41_10_ok, List.forall_mem_cons.mpr ⟨B41_11_ok, List.forall_mem_cons.mpr ⟨B41_12_ok, fun _ h => absurd h List.not_mem_nil⟩⟩⟩⟩⟩⟩⟩⟩⟩⟩⟩⟩⟩
theorem k_42_0 : Ok M42 0 (oLA 1 1) := r_aload_n (j := 1) (by decide +kernel) rfl
theorem k_42_1 : Ok M42 1 (oLA 1 2) := r_aload_n (j := 1) (by decide +kernel) rfl
theorem k_42_2 : Ok M42 2 (oGe 0 0 5) := r_get (idx := 59) (by decide +kernel) cd_0 0 (by decide) w_132 rfl
theorem k_42_5 : Ok M42 5 (oLI 3 6) := r_iload_n (j := 3) (by decide +kernel) rfl
theorem k_42_6 : Ok M42 6 (oCS 168 1) := r_callS (idx := 62) (by decide +kernel) w_561 cs_168
theorem k_42_9 : Ok M42 9 (oS (gI2 f_isub) 10) := r_isub (by decide +kernel)
theorem k_42_10 : Ok M42 10 (oCV 0 6 1) := r_callV (idx := 67) (by decide +kernel) w_567 cv_6
theorem k_42_13 : Ok M42 13 (oSI 7 18 15) := r_istore (by decide +kernel)
theorem k_42_15 : Ok M42 15 (oLI 7 17) := r_iload (by decide +kernel)
theorem k_42_17 : Ok M42 17 (oS (gKo (.int (-1))) 18) := r_iconst (n := (-1)) (by decide +kernel) (by decide +kernel)
theorem k_42_18 : Ok M42 18 (oB2 b_icmp_eq q_eq 28 21) := r_icmp_eq (off := 10) (by decide +kernel) (by decide +kernel)
theorem k_42_21 : Ok M42 21 (oLI 6 23) := r_iload (by decide +kernel)
theorem k_42_23 : Ok M42 23 (oS (gKo (.int 10)) 25) := r_bipush (n := 10) (by decide +kernel) (by decide +kernel)
theorem k_42_25 : Ok M42 25 (oB2 b_icmp_le q_le 30 28) := r_icmp_le (off := 5) (by decide +kernel) (by decide +kernel)
theorem k_42_28 : Ok M42 28 (oS (gKo (.long 0)) 29) := r_lconst (n := 0) (by decide +kernel) (by decide +kernel)
theorem k_42_29 : Ok M42 29 (oRL) := r_lreturn rfl (by decide +kernel)
theorem k_42_30 : Ok M42 30 (oS (gKo (.int 1)) 31) := r_iconst (n := 1) (by decide +kernel) (by decide +kernel)
theorem k_42_31 : Ok M42 31 (oLI 2 32) := r_iload_n (j := 2) (by decide +kernel) rfl
theorem k_42_32 : Ok M42 32 (oS (gI2 f_ishl) 33) := r_ishl (by decide +kernel)
theorem k_42_33 : Ok M42 33 (oSI 8 18 35) := r_istore (by decide +kernel)
theorem k_42_35 : Ok M42 35 (oK (.long 1099511627775) 38) := r_ldc2 (i := 86) (by decide +kernel) w_578
theorem k_42_38 : Ok M42 38 (oLA 0 39) := r_aload_n (j := 0) (by decide +kernel) rfl
theorem k_42_39 : Ok M42 39 (oLA 1 40) := r_aload_n (j := 1) (by decide +kernel) rfl
theorem k_42_40 : Ok M42 40 (oLI 3 41) := r_iload_n (j := 3) (by decide +kernel) rfl
theorem k_42_41 : Ok M42 41 (oLI 8 43) := r_iload (by decide +kernel)
theorem k_42_43 : Ok M42 43 (oS (gKo (.int (-1))) 44) := r_iconst (n := (-1)) (by decide +kernel) (by decide +kernel)
theorem k_42_44 : Ok M42 44 (oS (gI2 f_ixor) 45) := r_ixor (by decide +kernel)
theorem k_42_45 : Ok M42 45 (oS (gI2 f_iand) 46) := r_iand (by decide +kernel)
theorem k_42_46 : Ok M42 46 (oS (gKo (.int 0)) 47) := r_iconst (n := 0) (by decide +kernel) (by decide +kernel)
theorem k_42_47 : Ok M42 47 (oLI 5 49) := r_iload (by decide +kernel)
theorem k_42_49 : Ok M42 49 (oLI 6 51) := r_iload (by decide +kernel)
theorem k_42_51 : Ok M42 51 (oS (gKo (.int 1)) 52) := r_iconst (n := 1) (by decide +kernel) (by decide +kernel)
theorem k_42_52 : Ok M42 52 (oS (gI2 f_iadd) 53) := r_iadd (by decide +kernel)
theorem k_42_53 : Ok M42 53 (oCV 1 41 5) := r_callV (idx := 33) (by decide +kernel) w_557 cv_41
theorem k_42_56 : Ok M42 56 (oS (gL2 f_land) 57) := r_land (by decide +kernel)
theorem k_42_57 : Ok M42 57 (oSL 9 18 59) := r_lstore (by decide +kernel)
theorem k_42_59 : Ok M42 59 (oLL 9 61) := r_lload (by decide +kernel)
theorem k_42_61 : Ok M42 61 (oLA 1 62) := r_aload_n (j := 1) (by decide +kernel) rfl
theorem k_42_62 : Ok M42 62 (oLI 7 64) := r_iload (by decide +kernel)
theorem k_42_64 : Ok M42 64 (oLI 2 65) := r_iload_n (j := 2) (by decide +kernel) rfl
theorem k_42_65 : Ok M42 65 (oCV 0 3 2) := r_callV (idx := 88) (by decide +kernel) w_579 cv_3
theorem k_42_68 : Ok M42 68 (oS gIL 69) := r_i2l (by decide +kernel)
theorem k_42_69 : Ok M42 69 (oS (gKo (.int 10)) 71) := r_bipush (n := 10) (by decide +kernel) (by decide +kernel)
theorem k_42_71 : Ok M42 71 (oLI 7 73) := r_iload (by decide +kernel)
theorem k_42_73 : Ok M42 73 (oS (gI2 f_imul) 74) := r_imul (by decide +kernel)
theorem k_42_74 : Ok M42 74 (oS (gLS f_lshl) 75) := r_lshl (by decide +kernel)
theorem k_42_75 : Ok M42 75 (oS (gL2 f_ladd) 76) := r_ladd (by decide +kernel)
theorem k_42_76 : Ok M42 76 (oSL 9 18 78) := r_lstore (by decide +kernel)
theorem k_42_78 : Ok M42 78 (oS (gKo (.long 0)) 79) := r_lconst (n := 0) (by decide +kernel) (by decide +kernel)
theorem k_42_79 : Ok M42 79 (oSL 11 18 81) := r_lstore (by decide +kernel)
theorem k_42_81 : Ok M42 81 (oLI 3 82) := r_iload_n (j := 3) (by decide +kernel) rfl
theorem k_42_82 : Ok M42 82 (oLI 4 84) := r_iload (by decide +kernel)
theorem k_42_84 : Ok M42 84 (oS (gKo (.int (-1))) 85) := r_iconst (n := (-1)) (by decide +kernel) (by decide +kernel)
theorem k_42_85 : Ok M42 85 (oS (gI2 f_ixor) 86) := r_ixor (by decide +kernel)
theorem k_42_86 : Ok M42 86 (oS (gI2 f_iand) 87) := r_iand (by decide +kernel)
theorem k_42_87 : Ok M42 87 (oLI 8 89) := r_iload (by decide +kernel)
theorem k_42_89 : Ok M42 89 (oS (gKo (.int (-1))) 90) := r_iconst (n := (-1)) (by decide +kernel) (by decide +kernel)
theorem k_42_90 : Ok M42 90 (oS (gI2 f_ixor) 91) := r_ixor (by decide +kernel)
theorem k_42_91 : Ok M42 91 (oS (gI2 f_iand) 92) := r_iand (by decide +kernel)
theorem k_42_92 : Ok M42 92 (oB1 b_if_ne q_ne 99 95) := r_if_ne (off := 7) (by decide +kernel) (by decide +kernel)
theorem k_42_95 : Ok M42 95 (oS (gKo (.int 1)) 96) := r_iconst (n := 1) (by decide +kernel) (by decide +kernel)
theorem k_42_96 : Ok M42 96 (oGo 100) := r_goto (off := 4) (by decide +kernel) (by decide +kernel)
theorem k_42_99 : Ok M42 99 (oS (gKo (.int 0)) 100) := r_iconst (n := 0) (by decide +kernel) (by decide +kernel)
theorem k_42_100 : Ok M42 100 (oSI 13 18 102) := r_istore (by decide +kernel)
theorem k_42_102 : Ok M42 102 (oLA 1 103) := r_aload_n (j := 1) (by decide +kernel) rfl
theorem k_42_103 : Ok M42 103 (oGe 0 2 106) := r_get (idx := 91) (by decide +kernel) cd_0 2 (by decide) w_138 rfl
theorem k_42_106 : Ok M42 106 (oS (gKo (.int 1)) 107) := r_iconst (n := 1) (by decide +kernel) (by decide +kernel)
theorem k_42_107 : Ok M42 107 (oS (gI2 f_isub) 108) := r_isub (by decide +kernel)
theorem k_42_108 : Ok M42 108 (oSI 14 18 110) := r_istore (by decide +kernel)
theorem k_42_110 : Ok M42 110 (oLI 14 112) := r_iload (by decide +kernel)
theorem k_42_112 : Ok M42 112 (oB1 b_if_lt q_lt 211 115) := r_if_lt (off := 99) (by decide +kernel) (by decide +kernel)
theorem k_42_115 : Ok M42 115 (oLI 13 117) := r_iload (by decide +kernel)
theorem k_42_117 : Ok M42 117 (oB1 b_if_ne q_ne 211 120) := r_if_ne (off := 94) (by decide +kernel) (by decide +kernel)
theorem k_42_120 : Ok M42 120 (oLA 1 121) := r_aload_n (j := 1) (by decide +kernel) rfl
theorem k_42_121 : Ok M42 121 (oGe 0 11 124) := r_get (idx := 94) (by decide +kernel) cd_0 11 (by decide) w_156 rfl
theorem k_42_124 : Ok M42 124 (oLI 14 126) := r_iload (by decide +kernel)
theorem k_42_126 : Ok M42 126 (oAI 127) := r_iaload (by decide +kernel)
theorem k_42_127 : Ok M42 127 (oSI 15 18 129) := r_istore (by decide +kernel)
theorem k_42_129 : Ok M42 129 (oLI 15 131) := r_iload (by decide +kernel)
theorem k_42_131 : Ok M42 131 (oLI 7 133) := r_iload (by decide +kernel)
theorem k_42_133 : Ok M42 133 (oB2 b_icmp_eq q_eq 205 136) := r_icmp_eq (off := 72) (by decide +kernel) (by decide +kernel)
theorem k_42_136 : Ok M42 136 (oLI 5 138) := r_iload (by decide +kernel)
theorem k_42_138 : Ok M42 138 (oLI 15 140) := r_iload (by decide +kernel)
theorem k_42_140 : Ok M42 140 (oCS 94 2) := r_callSN (idx := 82) (host := RX4) (by decide +kernel) (fun _ _ h => h.2.2.2.2.2.2) cs_94
theorem k_42_143 : Ok M42 143 (oS (gKo (.int 1)) 144) := r_iconst (n := 1) (by decide +kernel) (by decide +kernel)
theorem k_42_144 : Ok M42 144 (oB2 b_icmp_ne q_ne 205 147) := r_icmp_ne (off := 61) (by decide +kernel) (by decide +kernel)
theorem k_42_147 : Ok M42 147 (oK (.long 1099511627775) 150) := r_ldc2 (i := 86) (by decide +kernel) w_578
theorem k_42_150 : Ok M42 150 (oLA 0 151) := r_aload_n (j := 0) (by decide +kernel) rfl
theorem k_42_151 : Ok M42 151 (oLA 1 152) := r_aload_n (j := 1) (by decide +kernel) rfl
theorem k_42_152 : Ok M42 152 (oLI 3 153) := r_iload_n (j := 3) (by decide +kernel) rfl
theorem k_42_153 : Ok M42 153 (oLI 4 155) := r_iload (by decide +kernel)
theorem k_42_155 : Ok M42 155 (oLI 8 157) := r_iload (by decide +kernel)
theorem k_42_157 : Ok M42 157 (oS (gI2 f_ior) 158) := r_ior (by decide +kernel)
theorem k_42_158 : Ok M42 158 (oLI 5 160) := r_iload (by decide +kernel)
theorem k_42_160 : Ok M42 160 (oS (gKo (.int 1)) 161) := r_iconst (n := 1) (by decide +kernel) (by decide +kernel)
theorem k_42_161 : Ok M42 161 (oLI 15 163) := r_iload (by decide +kernel)
theorem k_42_163 : Ok M42 163 (oS (gI2 f_ishl) 164) := r_ishl (by decide +kernel)
theorem k_42_164 : Ok M42 164 (oS (gKo (.int (-1))) 165) := r_iconst (n := (-1)) (by decide +kernel) (by decide +kernel)
theorem k_42_165 : Ok M42 165 (oS (gI2 f_ixor) 166) := r_ixor (by decide +kernel)
theorem k_42_166 : Ok M42 166 (oS (gI2 f_iand) 167) := r_iand (by decide +kernel)
theorem k_42_167 : Ok M42 167 (oLI 6 169) := r_iload (by decide +kernel)
theorem k_42_169 : Ok M42 169 (oS (gKo (.int 1)) 170) := r_iconst (n := 1) (by decide +kernel) (by decide +kernel)
theorem k_42_170 : Ok M42 170 (oS (gI2 f_iadd) 171) := r_iadd (by decide +kernel)
theorem k_42_171 : Ok M42 171 (oCV 1 41 5) := r_callV (idx := 33) (by decide +kernel) w_557 cv_41
theorem k_42_174 : Ok M42 174 (oS (gL2 f_land) 175) := r_land (by decide +kernel)
theorem k_42_175 : Ok M42 175 (oSL 16 18 177) := r_lstore (by decide +kernel)
theorem k_42_177 : Ok M42 177 (oLL 16 179) := r_lload (by decide +kernel)
theorem k_42_179 : Ok M42 179 (oLI 15 181) := r_iload (by decide +kernel)
theorem k_42_181 : Ok M42 181 (oCS 37 2) := r_callS (idx := 37) (by decide +kernel) w_580 cs_37
theorem k_42_184 : Ok M42 184 (oLL 9 186) := r_lload (by decide +kernel)
theorem k_42_186 : Ok M42 186 (oLI 15 188) := r_iload (by decide +kernel)
theorem k_42_188 : Ok M42 188 (oCS 37 2) := r_callS (idx := 37) (by decide +kernel) w_580 cs_37
theorem k_42_191 : Ok M42 191 (oB2 b_icmp_le q_le 205 194) := r_icmp_le (off := 14) (by decide +kernel) (by decide +kernel)
theorem k_42_194 : Ok M42 194 (oLL 16 196) := r_lload (by decide +kernel)
theorem k_42_196 : Ok M42 196 (oSL 9 18 198) := r_lstore (by decide +kernel)
theorem k_42_198 : Ok M42 198 (oLI 15 200) := r_iload (by decide +kernel)
theorem k_42_200 : Ok M42 200 (oS gIL 201) := r_i2l (by decide +kernel)
theorem k_42_201 : Ok M42 201 (oS (gKo (.long 1)) 202) := r_lconst (n := 1) (by decide +kernel) (by decide +kernel)
theorem k_42_202 : Ok M42 202 (oS (gL2 f_ladd) 203) := r_ladd (by decide +kernel)
theorem k_42_203 : Ok M42 203 (oSL 11 18 205) := r_lstore (by decide +kernel)
theorem k_42_205 : Ok M42 205 (oInc 14 (-1) 18 208) := r_iinc (n := (-1)) (by decide +kernel) (by decide +kernel)
theorem k_42_208 : Ok M42 208 (oGo 110) := r_goto (off := (-98)) (by decide +kernel) (by decide +kernel)
theorem k_42_211 : Ok M42 211 (oLL 9 213) := r_lload (by decide +kernel)
theorem k_42_213 : Ok M42 213 (oLL 11 215) := r_lload (by decide +kernel)
theorem k_42_215 : Ok M42 215 (oS (gKo (.int 40)) 217) := r_bipush (n := 40) (by decide +kernel) (by decide +kernel)
theorem k_42_217 : Ok M42 217 (oS (gLS f_lshl) 218) := r_lshl (by decide +kernel)
theorem k_42_218 : Ok M42 218 (oS (gL2 f_lor) 219) := r_lor (by decide +kernel)
theorem k_42_219 : Ok M42 219 (oLI 2 220) := r_iload_n (j := 2) (by decide +kernel) rfl
theorem k_42_220 : Ok M42 220 (oS gIL 221) := r_i2l (by decide +kernel)
theorem k_42_221 : Ok M42 221 (oS (gKo (.long 1)) 222) := r_lconst (n := 1) (by decide +kernel) (by decide +kernel)
theorem k_42_222 : Ok M42 222 (oS (gL2 f_ladd) 223) := r_ladd (by decide +kernel)
theorem k_42_223 : Ok M42 223 (oS (gKo (.int 43)) 225) := r_bipush (n := 43) (by decide +kernel) (by decide +kernel)
theorem k_42_225 : Ok M42 225 (oS (gLS f_lshl) 226) := r_lshl (by decide +kernel)
theorem k_42_226 : Ok M42 226 (oS (gL2 f_lor) 227) := r_lor (by decide +kernel)
theorem k_42_227 : Ok M42 227 (oRL) := r_lreturn rfl (by decide +kernel)
def B42_0 : List (Nat × aO) := [(0, oLA 1 1), (1, oLA 1 2), (2, oGe 0 0 5), (5, oLI 3 6), (6, oCS 168 1), (9, oS (gI2 f_isub) 10), (10, oCV 0 6 1), (13, oSI 7 18 15)]
theorem B42_0_ok : ∀ q ∈ B42_0, Ok M42 q.1 q.2 := List.forall_mem_cons.mpr ⟨k_42_0, List.forall_mem_cons.mpr ⟨k_42_1, List.forall_mem_cons.mpr ⟨k_42_2, List.forall_mem_cons.mpr ⟨k_42_5, List.forall_mem_cons.mpr ⟨k_42_6, List.forall_mem_cons.mpr ⟨k_42_9, List.forall_mem_cons.mpr ⟨k_42_10, List.forall_mem_cons.mpr ⟨k_42_13, fun _ h => absurd h List.not_mem_nil⟩⟩⟩⟩⟩⟩⟩⟩
def B42_1 : List (Nat × aO) := [(15, oLI 7 17), (17, oS (gKo (.int (-1))) 18), (18, oB2 b_icmp_eq q_eq 28 21), (21, oLI 6 23), (23, oS (gKo (.int 10)) 25), (25, oB2 b_icmp_le q_le 30 28), (28, oS (gKo (.long 0)) 29), (29, oRL)]
theorem B42_1_ok : ∀ q ∈ B42_1, Ok M42 q.1 q.2 := List.forall_mem_cons.mpr ⟨k_42_15, List.forall_mem_cons.mpr ⟨k_42_17, List.forall_mem_cons.mpr ⟨k_42_18, List.forall_mem_cons.mpr ⟨k_42_21, List.forall_mem_cons.mpr ⟨k_42_23, List.forall_mem_cons.mpr ⟨k_42_25, List.forall_mem_cons.mpr ⟨k_42_28, List.forall_mem_cons.mpr ⟨k_42_29, fun _ h => absurd h List.not_mem_nil⟩⟩⟩⟩⟩⟩⟩⟩
def B42_2 : List (Nat × aO) := [(30, oS (gKo (.int 1)) 31), (31, oLI 2 32), (32, oS (gI2 f_ishl) 33), (33, oSI 8 18 35), (35, oK (.long 1099511627775) 38), (38, oLA 0 39), (39, oLA 1 40), (40, oLI 3 41)]
theorem B42_2_ok : ∀ q ∈ B42_2, Ok M42 q.1 q.2 := List.forall_mem_cons.mpr ⟨k_42_30, List.forall_mem_cons.mpr ⟨k_42_31, List.forall_mem_cons.mpr ⟨k_42_32, List.forall_mem_cons.mpr ⟨k_42_33, List.forall_mem_cons.mpr ⟨k_42_35, List.forall_mem_cons.mpr ⟨k_42_38, List.forall_mem_cons.mpr ⟨k_42_39, List.forall_mem_cons.mpr ⟨k_42_40, fun _ h => absurd h List.not_mem_nil⟩⟩⟩⟩⟩⟩⟩⟩
def B42_3 : List (Nat × aO) := [(41, oLI 8 43), (43, oS (gKo (.int (-1))) 44), (44, oS (gI2 f_ixor) 45), (45, oS (gI2 f_iand) 46), (46, oS (gKo (.int 0)) 47), (47, oLI 5 49), (49, oLI 6 51), (51, oS (gKo (.int 1)) 52)]
theorem B42_3_ok : ∀ q ∈ B42_3, Ok M42 q.1 q.2 := List.forall_mem_cons.mpr ⟨k_42_41, List.forall_mem_cons.mpr ⟨k_42_43, List.forall_mem_cons.mpr ⟨k_42_44, List.forall_mem_cons.mpr ⟨k_42_45, List.forall_mem_cons.mpr ⟨k_42_46, List.forall_mem_cons.mpr ⟨k_42_47, List.forall_mem_cons.mpr ⟨k_42_49, List.forall_mem_cons.mpr ⟨k_42_51, fun _ h => absurd h List.not_mem_nil⟩⟩⟩⟩⟩⟩⟩⟩
def B42_4 : List (Nat × aO) := [(52, oS (gI2 f_iadd) 53), (53, oCV 1 41 5), (56, oS (gL2 f_land) 57), (57, oSL 9 18 59), (59, oLL 9 61), (61, oLA 1 62), (62, oLI 7 64), (64, oLI 2 65)]
theorem B42_4_ok : ∀ q ∈ B42_4, Ok M42 q.1 q.2 := List.forall_mem_cons.mpr ⟨k_42_52, List.forall_mem_cons.mpr ⟨k_42_53, List.forall_mem_cons.mpr ⟨k_42_56, List.forall_mem_cons.mpr ⟨k_42_57, List.forall_mem_cons.mpr ⟨k_42_59, List.forall_mem_cons.mpr ⟨k_42_61, List.forall_mem_cons.mpr ⟨k_42_62, List.forall_mem_cons.mpr ⟨k_42_64, fun _ h => absurd h List.not_mem_nil⟩⟩⟩⟩⟩⟩⟩⟩
def B42_5 : List (Nat × aO) := [(65, oCV 0 3 2), (68, oS gIL 69), (69, oS (gKo (.int 10)) 71), (71, oLI 7 73), (73, oS (gI2 f_imul) 74), (74, oS (gLS f_lshl) 75), (75, oS (gL2 f_ladd) 76), (76, oSL 9 18 78)]
theorem B42_5_ok : ∀ q ∈ B42_5, Ok M42 q.1 q.2 := List.forall_mem_cons.mpr ⟨k_42_65, List.forall_mem_cons.mpr ⟨k_42_68, List.forall_mem_cons.mpr ⟨k_42_69, List.forall_mem_cons.mpr ⟨k_42_71, List.forall_mem_cons.mpr ⟨k_42_73, List.forall_mem_cons.mpr ⟨k_42_74, List.forall_mem_cons.mpr ⟨k_42_75, List.forall_mem_cons.mpr ⟨k_42_76, fun _ h => absurd h List.not_mem_nil⟩⟩⟩⟩⟩⟩⟩⟩
def B42_6 : List (Nat × aO) := [(78, oS (gKo (.long 0)) 79), (79, oSL 11 18 81), (81, oLI 3 82), (82, oLI 4 84), (84, oS (gKo (.int (-1))) 85), (85, oS (gI2 f_ixor) 86), (86, oS (gI2 f_iand) 87), (87, oLI 8 89)]
theorem B42_6_ok : ∀ q ∈ B42_6, Ok M42 q.1 q.2 := List.forall_mem_cons.mpr ⟨k_42_78, List.forall_mem_cons.mpr ⟨k_42_79, List.forall_mem_cons.mpr ⟨k_42_81, List.forall_mem_cons.mpr ⟨k_42_82, List.forall_mem_cons.mpr ⟨k_42_84, List.forall_mem_cons.mpr ⟨k_42_85, List.forall_mem_cons.mpr ⟨k_42_86, List.forall_mem_cons.mpr ⟨k_42_87, fun _ h => absurd h List.not_mem_nil⟩⟩⟩⟩⟩⟩⟩⟩
def B42_7 : List (Nat × aO) := [(89, oS (gKo (.int (-1))) 90), (90, oS (gI2 f_ixor) 91), (91, oS (gI2 f_iand) 92), (92, oB1 b_if_ne q_ne 99 95), (95, oS (gKo (.int 1)) 96), (96, oGo 100), (99, oS (gKo (.int 0)) 100), (100, oSI 13 18 102)]
theorem B42_7_ok : ∀ q ∈ B42_7, Ok M42 q.1 q.2 := List.forall_mem_cons.mpr ⟨k_42_89, List.forall_mem_cons.mpr ⟨k_42_90, List.forall_mem_cons.mpr ⟨k_42_91, List.forall_mem_cons.mpr ⟨k_42_92, List.forall_mem_cons.mpr ⟨k_42_95, List.forall_mem_cons.mpr ⟨k_42_96, List.forall_mem_cons.mpr ⟨k_42_99, List.forall_mem_cons.mpr ⟨k_42_100, fun _ h => absurd h List.not_mem_nil⟩⟩⟩⟩⟩⟩⟩⟩
def B42_8 : List (Nat × aO) := [(102, oLA 1 103), (103, oGe 0 2 106), (106, oS (gKo (.int 1)) 107), (107, oS (gI2 f_isub) 108), (108, oSI 14 18 110), (110, oLI 14 112), (112, oB1 b_if_lt q_lt 211 115), (115, oLI 13 117)]
theorem B42_8_ok : ∀ q ∈ B42_8, Ok M42 q.1 q.2 := List.forall_mem_cons.mpr ⟨k_42_102, List.forall_mem_cons.mpr ⟨k_42_103, List.forall_mem_cons.mpr ⟨k_42_106, List.forall_mem_cons.mpr ⟨k_42_107, List.forall_mem_cons.mpr ⟨k_42_108, List.forall_mem_cons.mpr ⟨k_42_110, List.forall_mem_cons.mpr ⟨k_42_112, List.forall_mem_cons.mpr ⟨k_42_115, fun _ h => absurd h List.not_mem_nil⟩⟩⟩⟩⟩⟩⟩⟩
def B42_9 : List (Nat × aO) := [(117, oB1 b_if_ne q_ne 211 120), (120, oLA 1 121), (121, oGe 0 11 124), (124, oLI 14 126), (126, oAI 127), (127, oSI 15 18 129), (129, oLI 15 131), (131, oLI 7 133)]
theorem B42_9_ok : ∀ q ∈ B42_9, Ok M42 q.1 q.2 := List.forall_mem_cons.mpr ⟨k_42_117, List.forall_mem_cons.mpr ⟨k_42_120, List.forall_mem_cons.mpr ⟨k_42_121, List.forall_mem_cons.mpr ⟨k_42_124, List.forall_mem_cons.mpr ⟨k_42_126, List.forall_mem_cons.mpr ⟨k_42_127, List.forall_mem_cons.mpr ⟨k_42_129, List.forall_mem_cons.mpr ⟨k_42_131, fun _ h => absurd h List.not_mem_nil⟩⟩⟩⟩⟩⟩⟩⟩
def B42_10 : List (Nat × aO) := [(133, oB2 b_icmp_eq q_eq 205 136), (136, oLI 5 138), (138, oLI 15 140), (140, oCS 94 2), (143, oS (gKo (.int 1)) 144), (144, oB2 b_icmp_ne q_ne 205 147), (147, oK (.long 1099511627775) 150), (150, oLA 0 151)]
theorem B42_10_ok : ∀ q ∈ B42_10, Ok M42 q.1 q.2 := List.forall_mem_cons.mpr ⟨k_42_133, List.forall_mem_cons.mpr ⟨k_42_136, List.forall_mem_cons.mpr ⟨k_42_138, List.forall_mem_cons.mpr ⟨k_42_140, List.forall_mem_cons.mpr ⟨k_42_143, List.forall_mem_cons.mpr ⟨k_42_144, List.forall_mem_cons.mpr ⟨k_42_147, List.forall_mem_cons.mpr ⟨k_42_150, fun _ h => absurd h List.not_mem_nil⟩⟩⟩⟩⟩⟩⟩⟩
def B42_11 : List (Nat × aO) := [(151, oLA 1 152), (152, oLI 3 153), (153, oLI 4 155), (155, oLI 8 157), (157, oS (gI2 f_ior) 158), (158, oLI 5 160), (160, oS (gKo (.int 1)) 161), (161, oLI 15 163)]
theorem B42_11_ok : ∀ q ∈ B42_11, Ok M42 q.1 q.2 := List.forall_mem_cons.mpr ⟨k_42_151, List.forall_mem_cons.mpr ⟨k_42_152, List.forall_mem_cons.mpr ⟨k_42_153, List.forall_mem_cons.mpr ⟨k_42_155, List.forall_mem_cons.mpr ⟨k_42_157, List.forall_mem_cons.mpr ⟨k_42_158, List.forall_mem_cons.mpr ⟨k_42_160, List.forall_mem_cons.mpr ⟨k_42_161, fun _ h => absurd h List.not_mem_nil⟩⟩⟩⟩⟩⟩⟩⟩
def B42_12 : List (Nat × aO) := [(163, oS (gI2 f_ishl) 164), (164, oS (gKo (.int (-1))) 165), (165, oS (gI2 f_ixor) 166), (166, oS (gI2 f_iand) 167), (167, oLI 6 169), (169, oS (gKo (.int 1)) 170), (170, oS (gI2 f_iadd) 171), (171, oCV 1 41 5)]
theorem B42_12_ok : ∀ q ∈ B42_12, Ok M42 q.1 q.2 := List.forall_mem_cons.mpr ⟨k_42_163, List.forall_mem_cons.mpr ⟨k_42_164, List.forall_mem_cons.mpr ⟨k_42_165, List.forall_mem_cons.mpr ⟨k_42_166, List.forall_mem_cons.mpr ⟨k_42_167, List.forall_mem_cons.mpr ⟨k_42_169, List.forall_mem_cons.mpr ⟨k_42_170, List.forall_mem_cons.mpr ⟨k_42_171, fun _ h => absurd h List.not_mem_nil⟩⟩⟩⟩⟩⟩⟩⟩
def B42_13 : List (Nat × aO) := [(174, oS (gL2 f_land) 175), (175, oSL 16 18 177), (177, oLL 16 179), (179, oLI 15 181), (181, oCS 37 2), (184, oLL 9 186), (186, oLI 15 188), (188, oCS 37 2)]
theorem B42_13_ok : ∀ q ∈ B42_13, Ok M42 q.1 q.2 := List.forall_mem_cons.mpr ⟨k_42_174, List.forall_mem_cons.mpr ⟨k_42_175, List.forall_mem_cons.mpr ⟨k_42_177, List.forall_mem_cons.mpr ⟨k_42_179, List.forall_mem_cons.mpr ⟨k_42_181, List.forall_mem_cons.mpr ⟨k_42_184, List.forall_mem_cons.mpr ⟨k_42_186, List.forall_mem_cons.mpr ⟨k_42_188, fun _ h => absurd h List.not_mem_nil⟩⟩⟩⟩⟩⟩⟩⟩
def B42_14 : List (Nat × aO) := [(191, oB2 b_icmp_le q_le 205 194), (194, oLL 16 196), (196, oSL 9 18 198), (198, oLI 15 200), (200, oS gIL 201), (201, oS (gKo (.long 1)) 202), (202, oS (gL2 f_ladd) 203), (203, oSL 11 18 205)]
theorem B42_14_ok : ∀ q ∈ B42_14, Ok M42 q.1 q.2 := List.forall_mem_cons.mpr ⟨k_42_191, List.forall_mem_cons.mpr ⟨k_42_194, List.forall_mem_cons.mpr ⟨k_42_196, List.forall_mem_cons.mpr ⟨k_42_198, List.forall_mem_cons.mpr ⟨k_42_200, List.forall_mem_cons.mpr ⟨k_42_201, List.forall_mem_cons.mpr ⟨k_42_202, List.forall_mem_cons.mpr ⟨k_42_203, fun _ h => absurd h List.not_mem_nil⟩⟩⟩⟩⟩⟩⟩⟩
def B42_15 : List (Nat × aO) := [(205, oInc 14 (-1) 18 208), (208, oGo 110), (211, oLL 9 213), (213, oLL 11 215), (215, oS (gKo (.int 40)) 217), (217, oS (gLS f_lshl) 218), (218, oS (gL2 f_lor) 219), (219, oLI 2 220)]
theorem B42_15_ok : ∀ q ∈ B42_15, Ok M42 q.1 q.2 := List.forall_mem_cons.mpr ⟨k_42_205, List.forall_mem_cons.mpr ⟨k_42_208, List.forall_mem_cons.mpr ⟨k_42_211, List.forall_mem_cons.mpr ⟨k_42_213, List.forall_mem_cons.mpr ⟨k_42_215, List.forall_mem_cons.mpr ⟨k_42_217, List.forall_mem_cons.mpr ⟨k_42_218, List.forall_mem_cons.mpr ⟨k_42_219, fun _ h => absurd h List.not_mem_nil⟩⟩⟩⟩⟩⟩⟩⟩
def B42_16 : List (Nat × aO) := [(220, oS gIL 221), (221, oS (gKo (.long 1)) 222), (222, oS (gL2 f_ladd) 223), (223, oS (gKo (.int 43)) 225), (225, oS (gLS f_lshl) 226), (226, oS (gL2 f_lor) 227), (227, oRL)]
theorem B42_16_ok : ∀ q ∈ B42_16, Ok M42 q.1 q.2 := List.forall_mem_cons.mpr ⟨k_42_220, List.forall_mem_cons.mpr ⟨k_42_221, List.forall_mem_cons.mpr ⟨k_42_222, List.forall_mem_cons.mpr ⟨k_42_223, List.forall_mem_cons.mpr ⟨k_42_225, List.forall_mem_cons.mpr ⟨k_42_226, List.forall_mem_cons.mpr ⟨k_42_227, fun _ h => absurd h List.not_mem_nil⟩⟩⟩⟩⟩⟩⟩
def P42 : List (Nat × List (Nat × aO)) := [(13, B42_0), (29, B42_1), (40, B42_2), (51, B42_3), (64, B42_4), (76, B42_5), (87, B42_6), (100, B42_7), (115, B42_8), (131, B42_9), (150, B42_10), (161, B42_11), (171, B42_12), (188, B42_13), (203, B42_14), (219, B42_15), (227, B42_16)]
theorem P42_ok : ∀ b ∈ P42, ∀ q ∈ b.2, Ok M42 q.1 q.2 := List.forall_mem_cons.mpr ⟨B42_0_ok, List.forall_mem_cons.mpr ⟨B42_1_ok, List.forall_mem_cons.mpr ⟨B42_2_ok, List.forall_mem_cons.mpr ⟨B42_3_ok, List.forall_mem_cons.mpr ⟨B42_4_ok, List.forall_mem_cons.mpr ⟨B42_5_ok, List.forall_mem_cons.mpr ⟨B42_6_ok, List.forall_mem_cons.mpr ⟨B42_7_ok, List.forall_mem_cons.mpr ⟨B42_8_ok, List.forall_mem_cons.mpr ⟨B42_9_ok, List.forall_mem_cons.mpr ⟨B42_10_ok, List.forall_mem_cons.mpr ⟨B42_11_ok, List.forall_mem_cons.mpr ⟨B42_12_ok, List.forall_mem_cons.mpr ⟨B42_13_ok, List.forall_mem_cons.mpr ⟨B42_14_ok, List.forall_mem_cons.mpr ⟨B42_15_ok, List.forall_mem_cons.mpr ⟨B42_16_ok, fun _ h => absurd h List.not_mem_nil⟩⟩⟩⟩⟩⟩⟩⟩⟩⟩⟩⟩⟩⟩⟩⟩⟩
theorem k_43_0 : Ok M43 0 (oLA 1 1) := r_aload_n (j := 1) (by decide +kernel) rfl
theorem k_43_1 : Ok M43 1 (oCV 0 11 0) := r_callV (idx := 25) (by decide +kernel) w_556 cv_11
theorem k_43_4 : Ok M43 4 (oSI 3 11 5) := r_istore_n (j := 3) (by decide +kernel) rfl
theorem k_43_5 : Ok M43 5 (oLA 1 6) := r_aload_n (j := 1) (by decide +kernel) rfl
theorem k_43_6 : Ok M43 6 (oGe 0 16 9) := r_get (idx := 29) (by decide +kernel) cd_0 16 (by decide) w_166 rfl
theorem k_43_9 : Ok M43 9 (oSI 4 11 11) := r_istore (by decide +kernel)
theorem k_43_11 : Ok M43 11 (oLA 1 12) := r_aload_n (j := 1) (by decide +kernel) rfl
theorem k_43_12 : Ok M43 12 (oGe 0 15 15) := r_get (idx := 41) (by decide +kernel) cd_0 15 (by decide) w_163 rfl
theorem k_43_15 : Ok M43 15 (oSI 5 11 17) := r_istore (by decide +kernel)
theorem k_43_17 : Ok M43 17 (oS (gKo (.int 0)) 18) := r_iconst (n := 0) (by decide +kernel) (by decide +kernel)
theorem k_43_18 : Ok M43 18 (oSI 6 11 20) := r_istore (by decide +kernel)
theorem k_43_20 : Ok M43 20 (oLI 6 22) := r_iload (by decide +kernel)
theorem k_43_22 : Ok M43 22 (oS (gKo (.int 10)) 24) := r_bipush (n := 10) (by decide +kernel) (by decide +kernel)
theorem k_43_24 : Ok M43 24 (oB2 b_icmp_gt q_gt 126 27) := r_icmp_gt (off := 102) (by decide +kernel) (by decide +kernel)
theorem k_43_27 : Ok M43 27 (oLA 0 28) := r_aload_n (j := 0) (by decide +kernel) rfl
theorem k_43_28 : Ok M43 28 (oLA 1 29) := r_aload_n (j := 1) (by decide +kernel) rfl
theorem k_43_29 : Ok M43 29 (oLI 3 30) := r_iload_n (j := 3) (by decide +kernel) rfl
theorem k_43_30 : Ok M43 30 (oLI 4 32) := r_iload (by decide +kernel)
theorem k_43_32 : Ok M43 32 (oLI 5 34) := r_iload (by decide +kernel)
theorem k_43_34 : Ok M43 34 (oS (gKo (.int 0)) 35) := r_iconst (n := 0) (by decide +kernel) (by decide +kernel)
theorem k_43_35 : Ok M43 35 (oCV 1 41 5) := r_callV (idx := 33) (by decide +kernel) w_557 cv_41
theorem k_43_38 : Ok M43 38 (oSL 7 11 40) := r_lstore (by decide +kernel)
theorem k_43_40 : Ok M43 40 (oLL 7 42) := r_lload (by decide +kernel)
theorem k_43_42 : Ok M43 42 (oCS 39 1) := r_callS (idx := 44) (by decide +kernel) w_592 cs_39
theorem k_43_45 : Ok M43 45 (oSI 9 11 47) := r_istore (by decide +kernel)
theorem k_43_47 : Ok M43 47 (oLL 7 49) := r_lload (by decide +kernel)
theorem k_43_49 : Ok M43 49 (oCS 38 1) := r_callS (idx := 52) (by decide +kernel) w_604 cs_38
theorem k_43_52 : Ok M43 52 (oSI 10 11 54) := r_istore (by decide +kernel)
theorem k_43_54 : Ok M43 54 (oLI 9 56) := r_iload (by decide +kernel)
theorem k_43_56 : Ok M43 56 (oS (gKo (.int (-1))) 57) := r_iconst (n := (-1)) (by decide +kernel) (by decide +kernel)
theorem k_43_57 : Ok M43 57 (oB2 b_icmp_ne q_ne 62 60) := r_icmp_ne (off := 5) (by decide +kernel) (by decide +kernel)
theorem k_43_60 : Ok M43 60 (oS (gKo (.int (-1))) 61) := r_iconst (n := (-1)) (by decide +kernel) (by decide +kernel)
theorem k_43_61 : Ok M43 61 (oRI) := r_ireturn rfl (by decide +kernel)
theorem k_43_62 : Ok M43 62 (oLI 6 64) := r_iload (by decide +kernel)
theorem k_43_64 : Ok M43 64 (oLI 2 65) := r_iload_n (j := 2) (by decide +kernel) rfl
theorem k_43_65 : Ok M43 65 (oB2 b_icmp_ne q_ne 79 68) := r_icmp_ne (off := 14) (by decide +kernel) (by decide +kernel)
theorem k_43_68 : Ok M43 68 (oS (gKo (.int 10)) 70) := r_bipush (n := 10) (by decide +kernel) (by decide +kernel)
theorem k_43_70 : Ok M43 70 (oLI 9 72) := r_iload (by decide +kernel)
theorem k_43_72 : Ok M43 72 (oS (gI2 f_imul) 73) := r_imul (by decide +kernel)
theorem k_43_73 : Ok M43 73 (oLI 10 75) := r_iload (by decide +kernel)
theorem k_43_75 : Ok M43 75 (oS (gI2 f_iadd) 76) := r_iadd (by decide +kernel)
theorem k_43_76 : Ok M43 76 (oS (gKo (.int 1)) 77) := r_iconst (n := 1) (by decide +kernel) (by decide +kernel)
theorem k_43_77 : Ok M43 77 (oS (gI2 f_iadd) 78) := r_iadd (by decide +kernel)
theorem k_43_78 : Ok M43 78 (oRI) := r_ireturn rfl (by decide +kernel)
theorem k_43_79 : Ok M43 79 (oLI 10 81) := r_iload (by decide +kernel)
theorem k_43_81 : Ok M43 81 (oS (gKo (.int (-1))) 82) := r_iconst (n := (-1)) (by decide +kernel) (by decide +kernel)
theorem k_43_82 : Ok M43 82 (oB2 b_icmp_ne q_ne 100 85) := r_icmp_ne (off := 18) (by decide +kernel) (by decide +kernel)
theorem k_43_85 : Ok M43 85 (oLI 3 86) := r_iload_n (j := 3) (by decide +kernel) rfl
theorem k_43_86 : Ok M43 86 (oS (gKo (.int 1)) 87) := r_iconst (n := 1) (by decide +kernel) (by decide +kernel)
theorem k_43_87 : Ok M43 87 (oLI 9 89) := r_iload (by decide +kernel)
theorem k_43_89 : Ok M43 89 (oS (gI2 f_ishl) 90) := r_ishl (by decide +kernel)
theorem k_43_90 : Ok M43 90 (oS (gKo (.int (-1))) 91) := r_iconst (n := (-1)) (by decide +kernel) (by decide +kernel)
theorem k_43_91 : Ok M43 91 (oS (gI2 f_ixor) 92) := r_ixor (by decide +kernel)
theorem k_43_92 : Ok M43 92 (oS (gI2 f_iand) 93) := r_iand (by decide +kernel)
theorem k_43_93 : Ok M43 93 (oSI 3 11 94) := r_istore_n (j := 3) (by decide +kernel) rfl
theorem k_43_94 : Ok M43 94 (oS (gKo (.int 0)) 95) := r_iconst (n := 0) (by decide +kernel) (by decide +kernel)
theorem k_43_95 : Ok M43 95 (oSI 4 11 97) := r_istore (by decide +kernel)
theorem k_43_97 : Ok M43 97 (oGo 120) := r_goto (off := 23) (by decide +kernel) (by decide +kernel)
theorem k_43_100 : Ok M43 100 (oLI 4 102) := r_iload (by decide +kernel)
theorem k_43_102 : Ok M43 102 (oS (gKo (.int 1)) 103) := r_iconst (n := 1) (by decide +kernel) (by decide +kernel)
theorem k_43_103 : Ok M43 103 (oLI 9 105) := r_iload (by decide +kernel)
theorem k_43_105 : Ok M43 105 (oS (gI2 f_ishl) 106) := r_ishl (by decide +kernel)
theorem k_43_106 : Ok M43 106 (oS (gI2 f_ior) 107) := r_ior (by decide +kernel)
theorem k_43_107 : Ok M43 107 (oSI 4 11 109) := r_istore (by decide +kernel)
theorem k_43_109 : Ok M43 109 (oLI 5 111) := r_iload (by decide +kernel)
theorem k_43_111 : Ok M43 111 (oS (gKo (.int 1)) 112) := r_iconst (n := 1) (by decide +kernel) (by decide +kernel)
theorem k_43_112 : Ok M43 112 (oLI 10 114) := r_iload (by decide +kernel)
theorem k_43_114 : Ok M43 114 (oS (gI2 f_ishl) 115) := r_ishl (by decide +kernel)
theorem k_43_115 : Ok M43 115 (oS (gKo (.int (-1))) 116) := r_iconst (n := (-1)) (by decide +kernel) (by decide +kernel)
theorem k_43_116 : Ok M43 116 (oS (gI2 f_ixor) 117) := r_ixor (by decide +kernel)
theorem k_43_117 : Ok M43 117 (oS (gI2 f_iand) 118) := r_iand (by decide +kernel)
theorem k_43_118 : Ok M43 118 (oSI 5 11 120) := r_istore (by decide +kernel)
theorem k_43_120 : Ok M43 120 (oInc 6 1 11 123) := r_iinc (n := 1) (by decide +kernel) (by decide +kernel)
theorem k_43_123 : Ok M43 123 (oGo 20) := r_goto (off := (-103)) (by decide +kernel) (by decide +kernel)
theorem k_43_126 : Ok M43 126 (oS (gKo (.int (-1))) 127) := r_iconst (n := (-1)) (by decide +kernel) (by decide +kernel)
theorem k_43_127 : Ok M43 127 (oRI) := r_ireturn rfl (by decide +kernel)
def B43_0 : List (Nat × aO) := [(0, oLA 1 1), (1, oCV 0 11 0), (4, oSI 3 11 5), (5, oLA 1 6), (6, oGe 0 16 9), (9, oSI 4 11 11), (11, oLA 1 12), (12, oGe 0 15 15)]
theorem B43_0_ok : ∀ q ∈ B43_0, Ok M43 q.1 q.2 := List.forall_mem_cons.mpr ⟨k_43_0, List.forall_mem_cons.mpr ⟨k_43_1, List.forall_mem_cons.mpr ⟨k_43_4, List.forall_mem_cons.mpr ⟨k_43_5, List.forall_mem_cons.mpr ⟨k_43_6, List.forall_mem_cons.mpr ⟨k_43_9, List.forall_mem_cons.mpr ⟨k_43_11, List.forall_mem_cons.mpr ⟨k_43_12, fun _ h => absurd h List.not_mem_nil⟩⟩⟩⟩⟩⟩⟩⟩
def B43_1 : List (Nat × aO) := [(15, oSI 5 11 17), (17, oS (gKo (.int 0)) 18), (18, oSI 6 11 20), (20, oLI 6 22), (22, oS (gKo (.int 10)) 24), (24, oB2 b_icmp_gt q_gt 126 27), (27, oLA 0 28), (28, oLA 1 29)]
theorem B43_1_ok : ∀ q ∈ B43_1, Ok M43 q.1 q.2 := List.forall_mem_cons.mpr ⟨k_43_15, List.forall_mem_cons.mpr ⟨k_43_17, List.forall_mem_cons.mpr ⟨k_43_18, List.forall_mem_cons.mpr ⟨k_43_20, List.forall_mem_cons.mpr ⟨k_43_22, List.forall_mem_cons.mpr ⟨k_43_24, List.forall_mem_cons.mpr ⟨k_43_27, List.forall_mem_cons.mpr ⟨k_43_28, fun _ h => absurd h List.not_mem_nil⟩⟩⟩⟩⟩⟩⟩⟩
def B43_2 : List (Nat × aO) := [(29, oLI 3 30), (30, oLI 4 32), (32, oLI 5 34), (34, oS (gKo (.int 0)) 35), (35, oCV 1 41 5), (38, oSL 7 11 40), (40, oLL 7 42), (42, oCS 39 1)]
theorem B43_2_ok : ∀ q ∈ B43_2, Ok M43 q.1 q.2 := List.forall_mem_cons.mpr ⟨k_43_29, List.forall_mem_cons.mpr ⟨k_43_30, List.forall_mem_cons.mpr ⟨k_43_32, List.forall_mem_cons.mpr ⟨k_43_34, List.forall_mem_cons.mpr ⟨k_43_35, List.forall_mem_cons.mpr ⟨k_43_38, List.forall_mem_cons.mpr ⟨k_43_40, List.forall_mem_cons.mpr ⟨k_43_42, fun _ h => absurd h List.not_mem_nil⟩⟩⟩⟩⟩⟩⟩⟩
def B43_3 : List (Nat × aO) := [(45, oSI 9 11 47), (47, oLL 7 49), (49, oCS 38 1), (52, oSI 10 11 54), (54, oLI 9 56), (56, oS (gKo (.int (-1))) 57), (57, oB2 b_icmp_ne q_ne 62 60), (60, oS (gKo (.int (-1))) 61)]
theorem B43_3_ok : ∀ q ∈ B43_3, Ok M43 q.1 q.2 := List.forall_mem_cons.mpr ⟨k_43_45, List.forall_mem_cons.mpr ⟨k_43_47, List.forall_mem_cons.mpr ⟨k_43_49, List.forall_mem_cons.mpr ⟨k_43_52, List.forall_mem_cons.mpr ⟨k_43_54, List.forall_mem_cons.mpr ⟨k_43_56, List.forall_mem_cons.mpr ⟨k_43_57, List.forall_mem_cons.mpr ⟨k_43_60, fun _ h => absurd h List.not_mem_nil⟩⟩⟩⟩⟩⟩⟩⟩
def B43_4 : List (Nat × aO) := [(61, oRI), (62, oLI 6 64), (64, oLI 2 65), (65, oB2 b_icmp_ne q_ne 79 68), (68, oS (gKo (.int 10)) 70), (70, oLI 9 72), (72, oS (gI2 f_imul) 73), (73, oLI 10 75)]
theorem B43_4_ok : ∀ q ∈ B43_4, Ok M43 q.1 q.2 := List.forall_mem_cons.mpr ⟨k_43_61, List.forall_mem_cons.mpr ⟨k_43_62, List.forall_mem_cons.mpr ⟨k_43_64, List.forall_mem_cons.mpr ⟨k_43_65, List.forall_mem_cons.mpr ⟨k_43_68, List.forall_mem_cons.mpr ⟨k_43_70, List.forall_mem_cons.mpr ⟨k_43_72, List.forall_mem_cons.mpr ⟨k_43_73, fun _ h => absurd h List.not_mem_nil⟩⟩⟩⟩⟩⟩⟩⟩
def B43_5 : List (Nat × aO) := [(75, oS (gI2 f_iadd) 76), (76, oS (gKo (.int 1)) 77), (77, oS (gI2 f_iadd) 78), (78, oRI), (79, oLI 10 81), (81, oS (gKo (.int (-1))) 82), (82, oB2 b_icmp_ne q_ne 100 85), (85, oLI 3 86)]
theorem B43_5_ok : ∀ q ∈ B43_5, Ok M43 q.1 q.2 := List.forall_mem_cons.mpr ⟨k_43_75, List.forall_mem_cons.mpr ⟨k_43_76, List.forall_mem_cons.mpr ⟨k_43_77, List.forall_mem_cons.mpr ⟨k_43_78, List.forall_mem_cons.mpr ⟨k_43_79, List.forall_mem_cons.mpr ⟨k_43_81, List.forall_mem_cons.mpr ⟨k_43_82, List.forall_mem_cons.mpr ⟨k_43_85, fun _ h => absurd h List.not_mem_nil⟩⟩⟩⟩⟩⟩⟩⟩
def B43_6 : List (Nat × aO) := [(86, oS (gKo (.int 1)) 87), (87, oLI 9 89), (89, oS (gI2 f_ishl) 90), (90, oS (gKo (.int (-1))) 91), (91, oS (gI2 f_ixor) 92), (92, oS (gI2 f_iand) 93), (93, oSI 3 11 94), (94, oS (gKo (.int 0)) 95)]
theorem B43_6_ok : ∀ q ∈ B43_6, Ok M43 q.1 q.2 := List.forall_mem_cons.mpr ⟨k_43_86, List.forall_mem_cons.mpr ⟨k_43_87, List.forall_mem_cons.mpr ⟨k_43_89, List.forall_mem_cons.mpr ⟨k_43_90, List.forall_mem_cons.mpr ⟨k_43_91, List.forall_mem_cons.mpr ⟨k_43_92, List.forall_mem_cons.mpr ⟨k_43_93, List.forall_mem_cons.mpr ⟨k_43_94, fun _ h => absurd h List.not_mem_nil⟩⟩⟩⟩⟩⟩⟩⟩
def B43_7 : List (Nat × aO) := [(95, oSI 4 11 97), (97, oGo 120), (100, oLI 4 102), (102, oS (gKo (.int 1)) 103), (103, oLI 9 105), (105, oS (gI2 f_ishl) 106), (106, oS (gI2 f_ior) 107), (107, oSI 4 11 109)]
theorem B43_7_ok : ∀ q ∈ B43_7, Ok M43 q.1 q.2 := List.forall_mem_cons.mpr ⟨k_43_95, List.forall_mem_cons.mpr ⟨k_43_97, List.forall_mem_cons.mpr ⟨k_43_100, List.forall_mem_cons.mpr ⟨k_43_102, List.forall_mem_cons.mpr ⟨k_43_103, List.forall_mem_cons.mpr ⟨k_43_105, List.forall_mem_cons.mpr ⟨k_43_106, List.forall_mem_cons.mpr ⟨k_43_107, fun _ h => absurd h List.not_mem_nil⟩⟩⟩⟩⟩⟩⟩⟩
def B43_8 : List (Nat × aO) := [(109, oLI 5 111), (111, oS (gKo (.int 1)) 112), (112, oLI 10 114), (114, oS (gI2 f_ishl) 115), (115, oS (gKo (.int (-1))) 116), (116, oS (gI2 f_ixor) 117), (117, oS (gI2 f_iand) 118), (118, oSI 5 11 120)]
theorem B43_8_ok : ∀ q ∈ B43_8, Ok M43 q.1 q.2 := List.forall_mem_cons.mpr ⟨k_43_109, List.forall_mem_cons.mpr ⟨k_43_111, List.forall_mem_cons.mpr ⟨k_43_112, List.forall_mem_cons.mpr ⟨k_43_114, List.forall_mem_cons.mpr ⟨k_43_115, List.forall_mem_cons.mpr ⟨k_43_116, List.forall_mem_cons.mpr ⟨k_43_117, List.forall_mem_cons.mpr ⟨k_43_118, fun _ h => absurd h List.not_mem_nil⟩⟩⟩⟩⟩⟩⟩⟩
def B43_9 : List (Nat × aO) := [(120, oInc 6 1 11 123), (123, oGo 20), (126, oS (gKo (.int (-1))) 127), (127, oRI)]
theorem B43_9_ok : ∀ q ∈ B43_9, Ok M43 q.1 q.2 := List.forall_mem_cons.mpr ⟨k_43_120, List.forall_mem_cons.mpr ⟨k_43_123, List.forall_mem_cons.mpr ⟨k_43_126, List.forall_mem_cons.mpr ⟨k_43_127, fun _ h => absurd h List.not_mem_nil⟩⟩⟩⟩
def P43 : List (Nat × List (Nat × aO)) := [(12, B43_0), (28, B43_1), (42, B43_2), (60, B43_3), (73, B43_4), (85, B43_5), (94, B43_6), (107, B43_7), (118, B43_8), (127, B43_9)]
theorem P43_ok : ∀ b ∈ P43, ∀ q ∈ b.2, Ok M43 q.1 q.2 := List.forall_mem_cons.mpr ⟨B43_0_ok, List.forall_mem_cons.mpr ⟨B43_1_ok, List.forall_mem_cons.mpr ⟨B43_2_ok, List.forall_mem_cons.mpr ⟨B43_3_ok, List.forall_mem_cons.mpr ⟨B43_4_ok, List.forall_mem_cons.mpr ⟨B43_5_ok, List.forall_mem_cons.mpr ⟨B43_6_ok, List.forall_mem_cons.mpr ⟨B43_7_ok, List.forall_mem_cons.mpr ⟨B43_8_ok, List.forall_mem_cons.mpr ⟨B43_9_ok, fun _ h => absurd h List.not_mem_nil⟩⟩⟩⟩⟩⟩⟩⟩⟩⟩
theorem k_44_0 : Ok M44 0 (oLA 0 1) := r_aload_n (j := 0) (by decide +kernel) rfl
theorem k_44_1 : Ok M44 1 (oOb 4) := r_objInit (idx := 3) (by decide +kernel) w_215 w_86 w_oc
theorem k_44_4 : Ok M44 4 (oLA 0 5) := r_aload_n (j := 0) (by decide +kernel) rfl
theorem k_44_5 : Ok M44 5 (oS (gKo (.int 6)) 7) := r_bipush (n := 6) (by decide +kernel) (by decide +kernel)
theorem k_44_7 : Ok M44 7 (oNB 10) := r_newB (idx := 9) (by decide +kernel) w_216
theorem k_44_10 : Ok M44 10 (oPR 2 0 13) := r_putR (idx := 11) (by decide +kernel) cd_2 0 (by decide) w_219 rfl rfl rfl rfl (.array (.object "PostShares$Board")) (by decide +kernel) (fun _ => ⟨rfl, rfl⟩)
theorem k_44_13 : Ok M44 13 (oLA 0 14) := r_aload_n (j := 0) (by decide +kernel) rfl
theorem k_44_14 : Ok M44 14 (oS (gKo (.int 0)) 15) := r_iconst (n := 0) (by decide +kernel) (by decide +kernel)
theorem k_44_15 : Ok M44 15 (oPI 2 1 18) := r_putI (idx := 17) (by decide +kernel) cd_2 1 (by decide) w_220 rfl rfl (by decide +kernel)
theorem k_44_18 : Ok M44 18 (oLA 0 19) := r_aload_n (j := 0) (by decide +kernel) rfl
theorem k_44_19 : Ok M44 19 (oS (gKo (.int 0)) 20) := r_iconst (n := 0) (by decide +kernel) (by decide +kernel)
theorem k_44_20 : Ok M44 20 (oPI 2 2 23) := r_putI (idx := 21) (by decide +kernel) cd_2 2 (by decide) w_221 rfl rfl (by decide +kernel)
theorem k_44_23 : Ok M44 23 (oS (gKo (.int 0)) 24) := r_iconst (n := 0) (by decide +kernel) (by decide +kernel)
theorem k_44_24 : Ok M44 24 (oSI 1 2 25) := r_istore_n (j := 1) (by decide +kernel) rfl
theorem k_44_25 : Ok M44 25 (oLI 1 26) := r_iload_n (j := 1) (by decide +kernel) rfl
theorem k_44_26 : Ok M44 26 (oS (gKo (.int 6)) 28) := r_bipush (n := 6) (by decide +kernel) (by decide +kernel)
theorem k_44_28 : Ok M44 28 (oB2 b_icmp_ge q_ge 50 31) := r_icmp_ge (off := 22) (by decide +kernel) (by decide +kernel)
theorem k_44_31 : Ok M44 31 (oLA 0 32) := r_aload_n (j := 0) (by decide +kernel) rfl
theorem k_44_32 : Ok M44 32 (oGe 2 0 35) := r_get (idx := 11) (by decide +kernel) cd_2 0 (by decide) w_219 rfl
theorem k_44_35 : Ok M44 35 (oLI 1 36) := r_iload_n (j := 1) (by decide +kernel) rfl
theorem k_44_36 : Ok M44 36 (oNO 0 19 [.int 0, .null, .int 0, .null, .null, .int 0, .int 0, .int 0, .null, .null, .null, .null, .int 0, .null, .null, .int 0, .int 0, .int 0, .int 0] 39) := r_new (idx := 9) (fs := [.int 0, .null, .int 0, .null, .null, .int 0, .int 0, .int 0, .null, .null, .null, .null, .int 0, .null, .null, .int 0, .int 0, .int 0, .int 0]) (by decide +kernel) cd_0 w_216 (fun S j hj => by
  have : j < 19 := hj
  match j, this with
  | 0, _ => rfl
  | 1, _ => rfl
  | 2, _ => rfl
  | 3, _ => rfl
  | 4, _ => rfl
  | 5, _ => rfl
  | 6, _ => rfl
  | 7, _ => rfl
  | 8, _ => rfl
  | 9, _ => rfl
  | 10, _ => rfl
  | 11, _ => rfl
  | 12, _ => rfl
  | 13, _ => rfl
  | 14, _ => rfl
  | 15, _ => rfl
  | 16, _ => rfl
  | 17, _ => rfl
  | 18, _ => rfl
  | (j + 19), h => exact absurd h (by omega))
theorem k_44_39 : Ok M44 39 (oS gDu 40) := r_dup (by decide +kernel)
theorem k_44_40 : Ok M44 40 (oCI 0 0) := r_callIN (idx := 24) (host := RX4) (by decide +kernel) (fun _ _ h => h.2.2.2.1) cn_0
theorem k_44_43 : Ok M44 43 (oAB 44) := r_aastore (by decide +kernel)
theorem k_44_44 : Ok M44 44 (oInc 1 1 2 47) := r_iinc (n := 1) (by decide +kernel) (by decide +kernel)
theorem k_44_47 : Ok M44 47 (oGo 25) := r_goto (off := (-22)) (by decide +kernel) (by decide +kernel)
theorem k_44_50 : Ok M44 50 (oRV) := r_return rfl (by decide +kernel)
def B44_0 : List (Nat × aO) := [(0, oLA 0 1), (1, oOb 4), (4, oLA 0 5), (5, oS (gKo (.int 6)) 7), (7, oNB 10), (10, oPR 2 0 13), (13, oLA 0 14), (14, oS (gKo (.int 0)) 15)]
theorem B44_0_ok : ∀ q ∈ B44_0, Ok M44 q.1 q.2 := List.forall_mem_cons.mpr ⟨k_44_0, List.forall_mem_cons.mpr ⟨k_44_1, List.forall_mem_cons.mpr ⟨k_44_4, List.forall_mem_cons.mpr ⟨k_44_5, List.forall_mem_cons.mpr ⟨k_44_7, List.forall_mem_cons.mpr ⟨k_44_10, List.forall_mem_cons.mpr ⟨k_44_13, List.forall_mem_cons.mpr ⟨k_44_14, fun _ h => absurd h List.not_mem_nil⟩⟩⟩⟩⟩⟩⟩⟩
def B44_1 : List (Nat × aO) := [(15, oPI 2 1 18), (18, oLA 0 19), (19, oS (gKo (.int 0)) 20), (20, oPI 2 2 23), (23, oS (gKo (.int 0)) 24), (24, oSI 1 2 25), (25, oLI 1 26), (26, oS (gKo (.int 6)) 28)]
theorem B44_1_ok : ∀ q ∈ B44_1, Ok M44 q.1 q.2 := List.forall_mem_cons.mpr ⟨k_44_15, List.forall_mem_cons.mpr ⟨k_44_18, List.forall_mem_cons.mpr ⟨k_44_19, List.forall_mem_cons.mpr ⟨k_44_20, List.forall_mem_cons.mpr ⟨k_44_23, List.forall_mem_cons.mpr ⟨k_44_24, List.forall_mem_cons.mpr ⟨k_44_25, List.forall_mem_cons.mpr ⟨k_44_26, fun _ h => absurd h List.not_mem_nil⟩⟩⟩⟩⟩⟩⟩⟩
def B44_2 : List (Nat × aO) := [(28, oB2 b_icmp_ge q_ge 50 31), (31, oLA 0 32), (32, oGe 2 0 35), (35, oLI 1 36), (36, oNO 0 19 [.int 0, .null, .int 0, .null, .null, .int 0, .int 0, .int 0, .null, .null, .null, .null, .int 0, .null, .null, .int 0, .int 0, .int 0, .int 0] 39), (39, oS gDu 40), (40, oCI 0 0), (43, oAB 44)]
theorem B44_2_ok : ∀ q ∈ B44_2, Ok M44 q.1 q.2 := List.forall_mem_cons.mpr ⟨k_44_28, List.forall_mem_cons.mpr ⟨k_44_31, List.forall_mem_cons.mpr ⟨k_44_32, List.forall_mem_cons.mpr ⟨k_44_35, List.forall_mem_cons.mpr ⟨k_44_36, List.forall_mem_cons.mpr ⟨k_44_39, List.forall_mem_cons.mpr ⟨k_44_40, List.forall_mem_cons.mpr ⟨k_44_43, fun _ h => absurd h List.not_mem_nil⟩⟩⟩⟩⟩⟩⟩⟩
def B44_3 : List (Nat × aO) := [(44, oInc 1 1 2 47), (47, oGo 25), (50, oRV)]
theorem B44_3_ok : ∀ q ∈ B44_3, Ok M44 q.1 q.2 := List.forall_mem_cons.mpr ⟨k_44_44, List.forall_mem_cons.mpr ⟨k_44_47, List.forall_mem_cons.mpr ⟨k_44_50, fun _ h => absurd h List.not_mem_nil⟩⟩⟩
def P44 : List (Nat × List (Nat × aO)) := [(14, B44_0), (26, B44_1), (43, B44_2), (50, B44_3)]
theorem P44_ok : ∀ b ∈ P44, ∀ q ∈ b.2, Ok M44 q.1 q.2 := List.forall_mem_cons.mpr ⟨B44_0_ok, List.forall_mem_cons.mpr ⟨B44_1_ok, List.forall_mem_cons.mpr ⟨B44_2_ok, List.forall_mem_cons.mpr ⟨B44_3_ok, fun _ h => absurd h List.not_mem_nil⟩⟩⟩⟩
theorem k_45_0 : Ok M45 0 (oLA 0 1) := r_aload_n (j := 0) (by decide +kernel) rfl
theorem k_45_1 : Ok M45 1 (oGe 2 0 4) := r_get (idx := 11) (by decide +kernel) cd_2 0 (by decide) w_219 rfl
theorem k_45_4 : Ok M45 4 (oLA 0 5) := r_aload_n (j := 0) (by decide +kernel) rfl
theorem k_45_5 : Ok M45 5 (oGe 2 1 8) := r_get (idx := 17) (by decide +kernel) cd_2 1 (by decide) w_220 rfl
theorem k_45_8 : Ok M45 8 (oAA 9) := r_aaload (by decide +kernel)
theorem k_45_9 : Ok M45 9 (oSA 2 3 10) := r_astore_n (j := 2) (by decide +kernel) rfl
theorem k_45_10 : Ok M45 10 (oLA 2 11) := r_aload_n (j := 2) (by decide +kernel) rfl
theorem k_45_11 : Ok M45 11 ((fun lv st h => oNu 14 15 lv st h)) := r_ifnonnull (off := 4) (by decide +kernel) (by decide +kernel)
theorem k_45_14 : Ok M45 14 (oRV) := r_return rfl (by decide +kernel)
theorem k_45_15 : Ok M45 15 (oLA 2 16) := r_aload_n (j := 2) (by decide +kernel) rfl
theorem k_45_16 : Ok M45 16 (oLA 1 17) := r_aload_n (j := 1) (by decide +kernel) rfl
theorem k_45_17 : Ok M45 17 (oCV 0 31 1) := r_callV (idx := 25) (by decide +kernel) w_409 cv_31
theorem k_45_20 : Ok M45 20 (oLA 0 21) := r_aload_n (j := 0) (by decide +kernel) rfl
theorem k_45_21 : Ok M45 21 (oLA 0 22) := r_aload_n (j := 0) (by decide +kernel) rfl
theorem k_45_22 : Ok M45 22 (oGe 2 1 25) := r_get (idx := 17) (by decide +kernel) cd_2 1 (by decide) w_220 rfl
theorem k_45_25 : Ok M45 25 (oS (gKo (.int 1)) 26) := r_iconst (n := 1) (by decide +kernel) (by decide +kernel)
theorem k_45_26 : Ok M45 26 (oS (gI2 f_iadd) 27) := r_iadd (by decide +kernel)
theorem k_45_27 : Ok M45 27 (oS (gKo (.int 6)) 29) := r_bipush (n := 6) (by decide +kernel) (by decide +kernel)
theorem k_45_29 : Ok M45 29 (oS gRm 30) := r_irem (by decide +kernel)
theorem k_45_30 : Ok M45 30 (oPI 2 1 33) := r_putI (idx := 17) (by decide +kernel) cd_2 1 (by decide) w_220 rfl rfl (by decide +kernel)
theorem k_45_33 : Ok M45 33 (oLA 0 34) := r_aload_n (j := 0) (by decide +kernel) rfl
theorem k_45_34 : Ok M45 34 (oS (gKo (.int 6)) 36) := r_bipush (n := 6) (by decide +kernel) (by decide +kernel)
theorem k_45_36 : Ok M45 36 (oLA 0 37) := r_aload_n (j := 0) (by decide +kernel) rfl
theorem k_45_37 : Ok M45 37 (oGe 2 2 40) := r_get (idx := 21) (by decide +kernel) cd_2 2 (by decide) w_221 rfl
theorem k_45_40 : Ok M45 40 (oS (gKo (.int 1)) 41) := r_iconst (n := 1) (by decide +kernel) (by decide +kernel)
theorem k_45_41 : Ok M45 41 (oS (gI2 f_iadd) 42) := r_iadd (by decide +kernel)
theorem k_45_42 : Ok M45 42 (oMn 45) := r_mmin (idx := 29) (by decide +kernel) w_416 w_417 w_78 w_mmin
theorem k_45_45 : Ok M45 45 (oPI 2 2 48) := r_putI (idx := 21) (by decide +kernel) cd_2 2 (by decide) w_221 rfl rfl (by decide +kernel)
theorem k_45_48 : Ok M45 48 (oRV) := r_return rfl (by decide +kernel)
def B45_0 : List (Nat × aO) := [(0, oLA 0 1), (1, oGe 2 0 4), (4, oLA 0 5), (5, oGe 2 1 8), (8, oAA 9), (9, oSA 2 3 10), (10, oLA 2 11), (11, (fun lv st h => oNu 14 15 lv st h))]
theorem B45_0_ok : ∀ q ∈ B45_0, Ok M45 q.1 q.2 := List.forall_mem_cons.mpr ⟨k_45_0, List.forall_mem_cons.mpr ⟨k_45_1, List.forall_mem_cons.mpr ⟨k_45_4, List.forall_mem_cons.mpr ⟨k_45_5, List.forall_mem_cons.mpr ⟨k_45_8, List.forall_mem_cons.mpr ⟨k_45_9, List.forall_mem_cons.mpr ⟨k_45_10, List.forall_mem_cons.mpr ⟨k_45_11, fun _ h => absurd h List.not_mem_nil⟩⟩⟩⟩⟩⟩⟩⟩
def B45_1 : List (Nat × aO) := [(14, oRV), (15, oLA 2 16), (16, oLA 1 17), (17, oCV 0 31 1), (20, oLA 0 21), (21, oLA 0 22), (22, oGe 2 1 25), (25, oS (gKo (.int 1)) 26)]
theorem B45_1_ok : ∀ q ∈ B45_1, Ok M45 q.1 q.2 := List.forall_mem_cons.mpr ⟨k_45_14, List.forall_mem_cons.mpr ⟨k_45_15, List.forall_mem_cons.mpr ⟨k_45_16, List.forall_mem_cons.mpr ⟨k_45_17, List.forall_mem_cons.mpr ⟨k_45_20, List.forall_mem_cons.mpr ⟨k_45_21, List.forall_mem_cons.mpr ⟨k_45_22, List.forall_mem_cons.mpr ⟨k_45_25, fun _ h => absurd h List.not_mem_nil⟩⟩⟩⟩⟩⟩⟩⟩
def B45_2 : List (Nat × aO) := [(26, oS (gI2 f_iadd) 27), (27, oS (gKo (.int 6)) 29), (29, oS gRm 30), (30, oPI 2 1 33), (33, oLA 0 34), (34, oS (gKo (.int 6)) 36), (36, oLA 0 37), (37, oGe 2 2 40)]
theorem B45_2_ok : ∀ q ∈ B45_2, Ok M45 q.1 q.2 := List.forall_mem_cons.mpr ⟨k_45_26, List.forall_mem_cons.mpr ⟨k_45_27, List.forall_mem_cons.mpr ⟨k_45_29, List.forall_mem_cons.mpr ⟨k_45_30, List.forall_mem_cons.mpr ⟨k_45_33, List.forall_mem_cons.mpr ⟨k_45_34, List.forall_mem_cons.mpr ⟨k_45_36, List.forall_mem_cons.mpr ⟨k_45_37, fun _ h => absurd h List.not_mem_nil⟩⟩⟩⟩⟩⟩⟩⟩
def B45_3 : List (Nat × aO) := [(40, oS (gKo (.int 1)) 41), (41, oS (gI2 f_iadd) 42), (42, oMn 45), (45, oPI 2 2 48), (48, oRV)]
theorem B45_3_ok : ∀ q ∈ B45_3, Ok M45 q.1 q.2 := List.forall_mem_cons.mpr ⟨k_45_40, List.forall_mem_cons.mpr ⟨k_45_41, List.forall_mem_cons.mpr ⟨k_45_42, List.forall_mem_cons.mpr ⟨k_45_45, List.forall_mem_cons.mpr ⟨k_45_48, fun _ h => absurd h List.not_mem_nil⟩⟩⟩⟩⟩
def P45 : List (Nat × List (Nat × aO)) := [(11, B45_0), (25, B45_1), (37, B45_2), (48, B45_3)]
theorem P45_ok : ∀ b ∈ P45, ∀ q ∈ b.2, Ok M45 q.1 q.2 := List.forall_mem_cons.mpr ⟨B45_0_ok, List.forall_mem_cons.mpr ⟨B45_1_ok, List.forall_mem_cons.mpr ⟨B45_2_ok, List.forall_mem_cons.mpr ⟨B45_3_ok, fun _ h => absurd h List.not_mem_nil⟩⟩⟩⟩
theorem k_46_0 : Ok M46 0 (oLA 0 1) := r_aload_n (j := 0) (by decide +kernel) rfl
theorem k_46_1 : Ok M46 1 (oGe 2 2 4) := r_get (idx := 21) (by decide +kernel) cd_2 2 (by decide) w_221 rfl
theorem k_46_4 : Ok M46 4 (oB1 b_if_ne q_ne 8 7) := r_if_ne (off := 4) (by decide +kernel) (by decide +kernel)
theorem k_46_7 : Ok M46 7 (oRV) := r_return rfl (by decide +kernel)
theorem k_46_8 : Ok M46 8 (oLA 0 9) := r_aload_n (j := 0) (by decide +kernel) rfl
theorem k_46_9 : Ok M46 9 (oLA 0 10) := r_aload_n (j := 0) (by decide +kernel) rfl
theorem k_46_10 : Ok M46 10 (oGe 2 1 13) := r_get (idx := 17) (by decide +kernel) cd_2 1 (by decide) w_220 rfl
theorem k_46_13 : Ok M46 13 (oS (gKo (.int 6)) 15) := r_bipush (n := 6) (by decide +kernel) (by decide +kernel)
theorem k_46_15 : Ok M46 15 (oS (gI2 f_iadd) 16) := r_iadd (by decide +kernel)
theorem k_46_16 : Ok M46 16 (oS (gKo (.int 1)) 17) := r_iconst (n := 1) (by decide +kernel) (by decide +kernel)
theorem k_46_17 : Ok M46 17 (oS (gI2 f_isub) 18) := r_isub (by decide +kernel)
theorem k_46_18 : Ok M46 18 (oS (gKo (.int 6)) 20) := r_bipush (n := 6) (by decide +kernel) (by decide +kernel)
theorem k_46_20 : Ok M46 20 (oS gRm 21) := r_irem (by decide +kernel)
theorem k_46_21 : Ok M46 21 (oPI 2 1 24) := r_putI (idx := 17) (by decide +kernel) cd_2 1 (by decide) w_220 rfl rfl (by decide +kernel)
theorem k_46_24 : Ok M46 24 (oLA 0 25) := r_aload_n (j := 0) (by decide +kernel) rfl
theorem k_46_25 : Ok M46 25 (oS gDu 26) := r_dup (by decide +kernel)
theorem k_46_26 : Ok M46 26 (oGe 2 2 29) := r_get (idx := 21) (by decide +kernel) cd_2 2 (by decide) w_221 rfl
theorem k_46_29 : Ok M46 29 (oS (gKo (.int 1)) 30) := r_iconst (n := 1) (by decide +kernel) (by decide +kernel)
theorem k_46_30 : Ok M46 30 (oS (gI2 f_isub) 31) := r_isub (by decide +kernel)
theorem k_46_31 : Ok M46 31 (oPI 2 2 34) := r_putI (idx := 21) (by decide +kernel) cd_2 2 (by decide) w_221 rfl rfl (by decide +kernel)
theorem k_46_34 : Ok M46 34 (oLA 0 35) := r_aload_n (j := 0) (by decide +kernel) rfl
theorem k_46_35 : Ok M46 35 (oGe 2 0 38) := r_get (idx := 11) (by decide +kernel) cd_2 0 (by decide) w_219 rfl
theorem k_46_38 : Ok M46 38 (oLA 0 39) := r_aload_n (j := 0) (by decide +kernel) rfl
theorem k_46_39 : Ok M46 39 (oGe 2 1 42) := r_get (idx := 17) (by decide +kernel) cd_2 1 (by decide) w_220 rfl
theorem k_46_42 : Ok M46 42 (oAA 43) := r_aaload (by decide +kernel)
theorem k_46_43 : Ok M46 43 (oSA 2 3 44) := r_astore_n (j := 2) (by decide +kernel) rfl
theorem k_46_44 : Ok M46 44 (oLA 2 45) := r_aload_n (j := 2) (by decide +kernel) rfl
theorem k_46_45 : Ok M46 45 (oNu 53 48) := r_ifnull (off := 8) (by decide +kernel) (by decide +kernel)
theorem k_46_48 : Ok M46 48 (oLA 1 49) := r_aload_n (j := 1) (by decide +kernel) rfl
theorem k_46_49 : Ok M46 49 (oLA 2 50) := r_aload_n (j := 2) (by decide +kernel) rfl
theorem k_46_50 : Ok M46 50 (oCV 0 31 1) := r_callV (idx := 25) (by decide +kernel) w_409 cv_31
theorem k_46_53 : Ok M46 53 (oRV) := r_return rfl (by decide +kernel)
def B46_0 : List (Nat × aO) := [(0, oLA 0 1), (1, oGe 2 2 4), (4, oB1 b_if_ne q_ne 8 7), (7, oRV), (8, oLA 0 9), (9, oLA 0 10), (10, oGe 2 1 13), (13, oS (gKo (.int 6)) 15)]
theorem B46_0_ok : ∀ q ∈ B46_0, Ok M46 q.1 q.2 := List.forall_mem_cons.mpr ⟨k_46_0, List.forall_mem_cons.mpr ⟨k_46_1, List.forall_mem_cons.mpr ⟨k_46_4, List.forall_mem_cons.mpr ⟨k_46_7, List.forall_mem_cons.mpr ⟨k_46_8, List.forall_mem_cons.mpr ⟨k_46_9, List.forall_mem_cons.mpr ⟨k_46_10, List.forall_mem_cons.mpr ⟨k_46_13, fun _ h => absurd h List.not_mem_nil⟩⟩⟩⟩⟩⟩⟩⟩
def B46_1 : List (Nat × aO) := [(15, oS (gI2 f_iadd) 16), (16, oS (gKo (.int 1)) 17), (17, oS (gI2 f_isub) 18), (18, oS (gKo (.int 6)) 20), (20, oS gRm 21), (21, oPI 2 1 24), (24, oLA 0 25), (25, oS gDu 26)]
theorem B46_1_ok : ∀ q ∈ B46_1, Ok M46 q.1 q.2 := List.forall_mem_cons.mpr ⟨k_46_15, List.forall_mem_cons.mpr ⟨k_46_16, List.forall_mem_cons.mpr ⟨k_46_17, List.forall_mem_cons.mpr ⟨k_46_18, List.forall_mem_cons.mpr ⟨k_46_20, List.forall_mem_cons.mpr ⟨k_46_21, List.forall_mem_cons.mpr ⟨k_46_24, List.forall_mem_cons.mpr ⟨k_46_25, fun _ h => absurd h List.not_mem_nil⟩⟩⟩⟩⟩⟩⟩⟩
def B46_2 : List (Nat × aO) := [(26, oGe 2 2 29), (29, oS (gKo (.int 1)) 30), (30, oS (gI2 f_isub) 31), (31, oPI 2 2 34), (34, oLA 0 35), (35, oGe 2 0 38), (38, oLA 0 39), (39, oGe 2 1 42)]
theorem B46_2_ok : ∀ q ∈ B46_2, Ok M46 q.1 q.2 := List.forall_mem_cons.mpr ⟨k_46_26, List.forall_mem_cons.mpr ⟨k_46_29, List.forall_mem_cons.mpr ⟨k_46_30, List.forall_mem_cons.mpr ⟨k_46_31, List.forall_mem_cons.mpr ⟨k_46_34, List.forall_mem_cons.mpr ⟨k_46_35, List.forall_mem_cons.mpr ⟨k_46_38, List.forall_mem_cons.mpr ⟨k_46_39, fun _ h => absurd h List.not_mem_nil⟩⟩⟩⟩⟩⟩⟩⟩
def B46_3 : List (Nat × aO) := [(42, oAA 43), (43, oSA 2 3 44), (44, oLA 2 45), (45, oNu 53 48), (48, oLA 1 49), (49, oLA 2 50), (50, oCV 0 31 1), (53, oRV)]
theorem B46_3_ok : ∀ q ∈ B46_3, Ok M46 q.1 q.2 := List.forall_mem_cons.mpr ⟨k_46_42, List.forall_mem_cons.mpr ⟨k_46_43, List.forall_mem_cons.mpr ⟨k_46_44, List.forall_mem_cons.mpr ⟨k_46_45, List.forall_mem_cons.mpr ⟨k_46_48, List.forall_mem_cons.mpr ⟨k_46_49, List.forall_mem_cons.mpr ⟨k_46_50, List.forall_mem_cons.mpr ⟨k_46_53, fun _ h => absurd h List.not_mem_nil⟩⟩⟩⟩⟩⟩⟩⟩
def P46 : List (Nat × List (Nat × aO)) := [(13, B46_0), (25, B46_1), (39, B46_2), (53, B46_3)]
theorem P46_ok : ∀ b ∈ P46, ∀ q ∈ b.2, Ok M46 q.1 q.2 := List.forall_mem_cons.mpr ⟨B46_0_ok, List.forall_mem_cons.mpr ⟨B46_1_ok, List.forall_mem_cons.mpr ⟨B46_2_ok, List.forall_mem_cons.mpr ⟨B46_3_ok, fun _ h => absurd h List.not_mem_nil⟩⟩⟩⟩
theorem k_47_0 : Ok M47 0 (oLA 0 1) := r_aload_n (j := 0) (by decide +kernel) rfl
theorem k_47_1 : Ok M47 1 (oOb 4) := r_objInit (idx := 3) (by decide +kernel) w_93 w_86 w_oc
theorem k_47_4 : Ok M47 4 (oLA 0 5) := r_aload_n (j := 0) (by decide +kernel) rfl
theorem k_47_5 : Ok M47 5 (oS (gKo (.int 160)) 8) := r_sipush (n := 160) (by decide +kernel) (by decide +kernel)
theorem k_47_8 : Ok M47 8 (oNI 10) := r_newI (by decide +kernel) w_123
theorem k_47_10 : Ok M47 10 (oPR 3 0 13) := r_putR (idx := 9) (by decide +kernel) cd_3 0 (by decide) w_97 rfl rfl rfl rfl (.array .int) (by decide +kernel) (fun _ => ⟨rfl, rfl⟩)
theorem k_47_13 : Ok M47 13 (oLA 0 14) := r_aload_n (j := 0) (by decide +kernel) rfl
theorem k_47_14 : Ok M47 14 (oS (gKo (.int 0)) 15) := r_iconst (n := 0) (by decide +kernel) (by decide +kernel)
theorem k_47_15 : Ok M47 15 (oPI 3 1 18) := r_putI (idx := 15) (by decide +kernel) cd_3 1 (by decide) w_98 rfl rfl (by decide +kernel)
theorem k_47_18 : Ok M47 18 (oLA 0 19) := r_aload_n (j := 0) (by decide +kernel) rfl
theorem k_47_19 : Ok M47 19 (oS (gKo (.int 4)) 20) := r_iconst (n := 4) (by decide +kernel) (by decide +kernel)
theorem k_47_20 : Ok M47 20 (oNI 22) := r_newI (by decide +kernel) w_123
theorem k_47_22 : Ok M47 22 (oPR 3 2 25) := r_putR (idx := 19) (by decide +kernel) cd_3 2 (by decide) w_100 rfl rfl rfl rfl (.array .int) (by decide +kernel) (fun _ => ⟨rfl, rfl⟩)
theorem k_47_25 : Ok M47 25 (oLA 0 26) := r_aload_n (j := 0) (by decide +kernel) rfl
theorem k_47_26 : Ok M47 26 (oS (gKo (.int 0)) 27) := r_iconst (n := 0) (by decide +kernel) (by decide +kernel)
theorem k_47_27 : Ok M47 27 (oPI 3 3 30) := r_putI (idx := 22) (by decide +kernel) cd_3 3 (by decide) w_102 rfl rfl (by decide +kernel)
theorem k_47_30 : Ok M47 30 (oLA 0 31) := r_aload_n (j := 0) (by decide +kernel) rfl
theorem k_47_31 : Ok M47 31 (oS (gKo (.int 0)) 32) := r_iconst (n := 0) (by decide +kernel) (by decide +kernel)
theorem k_47_32 : Ok M47 32 (oPI 3 4 35) := r_putI (idx := 25) (by decide +kernel) cd_3 4 (by decide) w_104 rfl rfl (by decide +kernel)
theorem k_47_35 : Ok M47 35 (oLA 0 36) := r_aload_n (j := 0) (by decide +kernel) rfl
theorem k_47_36 : Ok M47 36 (oS (gKo (.int 0)) 37) := r_iconst (n := 0) (by decide +kernel) (by decide +kernel)
theorem k_47_37 : Ok M47 37 (oPI 3 5 40) := r_putI (idx := 28) (by decide +kernel) cd_3 5 (by decide) w_106 rfl rfl (by decide +kernel)
theorem k_47_40 : Ok M47 40 (oLA 0 41) := r_aload_n (j := 0) (by decide +kernel) rfl
theorem k_47_41 : Ok M47 41 (oS (gKo (.int 0)) 42) := r_iconst (n := 0) (by decide +kernel) (by decide +kernel)
theorem k_47_42 : Ok M47 42 (oPI 3 6 45) := r_putI (idx := 31) (by decide +kernel) cd_3 6 (by decide) w_107 rfl rfl (by decide +kernel)
theorem k_47_45 : Ok M47 45 (oLA 0 46) := r_aload_n (j := 0) (by decide +kernel) rfl
theorem k_47_46 : Ok M47 46 (oGe 3 2 49) := r_get (idx := 19) (by decide +kernel) cd_3 2 (by decide) w_100 rfl
theorem k_47_49 : Ok M47 49 (oS (gKo (.int (-1))) 50) := r_iconst (n := (-1)) (by decide +kernel) (by decide +kernel)
theorem k_47_50 : Ok M47 50 (oCS 169 2) := r_callS (idx := 34) (by decide +kernel) w_94 cs_169
theorem k_47_53 : Ok M47 53 (oRV) := r_return rfl (by decide +kernel)
def B47_0 : List (Nat × aO) := [(0, oLA 0 1), (1, oOb 4), (4, oLA 0 5), (5, oS (gKo (.int 160)) 8), (8, oNI 10), (10, oPR 3 0 13), (13, oLA 0 14), (14, oS (gKo (.int 0)) 15)]
theorem B47_0_ok : ∀ q ∈ B47_0, Ok M47 q.1 q.2 := List.forall_mem_cons.mpr ⟨k_47_0, List.forall_mem_cons.mpr ⟨k_47_1, List.forall_mem_cons.mpr ⟨k_47_4, List.forall_mem_cons.mpr ⟨k_47_5, List.forall_mem_cons.mpr ⟨k_47_8, List.forall_mem_cons.mpr ⟨k_47_10, List.forall_mem_cons.mpr ⟨k_47_13, List.forall_mem_cons.mpr ⟨k_47_14, fun _ h => absurd h List.not_mem_nil⟩⟩⟩⟩⟩⟩⟩⟩
def B47_1 : List (Nat × aO) := [(15, oPI 3 1 18), (18, oLA 0 19), (19, oS (gKo (.int 4)) 20), (20, oNI 22), (22, oPR 3 2 25), (25, oLA 0 26), (26, oS (gKo (.int 0)) 27), (27, oPI 3 3 30)]
theorem B47_1_ok : ∀ q ∈ B47_1, Ok M47 q.1 q.2 := List.forall_mem_cons.mpr ⟨k_47_15, List.forall_mem_cons.mpr ⟨k_47_18, List.forall_mem_cons.mpr ⟨k_47_19, List.forall_mem_cons.mpr ⟨k_47_20, List.forall_mem_cons.mpr ⟨k_47_22, List.forall_mem_cons.mpr ⟨k_47_25, List.forall_mem_cons.mpr ⟨k_47_26, List.forall_mem_cons.mpr ⟨k_47_27, fun _ h => absurd h List.not_mem_nil⟩⟩⟩⟩⟩⟩⟩⟩
def B47_2 : List (Nat × aO) := [(30, oLA 0 31), (31, oS (gKo (.int 0)) 32), (32, oPI 3 4 35), (35, oLA 0 36), (36, oS (gKo (.int 0)) 37), (37, oPI 3 5 40), (40, oLA 0 41), (41, oS (gKo (.int 0)) 42)]
theorem B47_2_ok : ∀ q ∈ B47_2, Ok M47 q.1 q.2 := List.forall_mem_cons.mpr ⟨k_47_30, List.forall_mem_cons.mpr ⟨k_47_31, List.forall_mem_cons.mpr ⟨k_47_32, List.forall_mem_cons.mpr ⟨k_47_35, List.forall_mem_cons.mpr ⟨k_47_36, List.forall_mem_cons.mpr ⟨k_47_37, List.forall_mem_cons.mpr ⟨k_47_40, List.forall_mem_cons.mpr ⟨k_47_41, fun _ h => absurd h List.not_mem_nil⟩⟩⟩⟩⟩⟩⟩⟩
def B47_3 : List (Nat × aO) := [(42, oPI 3 6 45), (45, oLA 0 46), (46, oGe 3 2 49), (49, oS (gKo (.int (-1))) 50), (50, oCS 169 2), (53, oRV)]
theorem B47_3_ok : ∀ q ∈ B47_3, Ok M47 q.1 q.2 := List.forall_mem_cons.mpr ⟨k_47_42, List.forall_mem_cons.mpr ⟨k_47_45, List.forall_mem_cons.mpr ⟨k_47_46, List.forall_mem_cons.mpr ⟨k_47_49, List.forall_mem_cons.mpr ⟨k_47_50, List.forall_mem_cons.mpr ⟨k_47_53, fun _ h => absurd h List.not_mem_nil⟩⟩⟩⟩⟩⟩
def P47 : List (Nat × List (Nat × aO)) := [(14, B47_0), (27, B47_1), (41, B47_2), (53, B47_3)]
theorem P47_ok : ∀ b ∈ P47, ∀ q ∈ b.2, Ok M47 q.1 q.2 := List.forall_mem_cons.mpr ⟨B47_0_ok, List.forall_mem_cons.mpr ⟨B47_1_ok, List.forall_mem_cons.mpr ⟨B47_2_ok, List.forall_mem_cons.mpr ⟨B47_3_ok, fun _ h => absurd h List.not_mem_nil⟩⟩⟩⟩
theorem k_48_0 : Ok M48 0 (oLA 0 1) := r_aload_n (j := 0) (by decide +kernel) rfl
theorem k_48_1 : Ok M48 1 (oGe 3 1 4) := r_get (idx := 15) (by decide +kernel) cd_3 1 (by decide) w_98 rfl
theorem k_48_4 : Ok M48 4 (oS (gKo (.int 160)) 7) := r_sipush (n := 160) (by decide +kernel) (by decide +kernel)
theorem k_48_7 : Ok M48 7 (oB2 b_icmp_ge q_ge 30 10) := r_icmp_ge (off := 23) (by decide +kernel) (by decide +kernel)
theorem k_48_10 : Ok M48 10 (oLA 0 11) := r_aload_n (j := 0) (by decide +kernel) rfl
theorem k_48_11 : Ok M48 11 (oGe 3 0 14) := r_get (idx := 9) (by decide +kernel) cd_3 0 (by decide) w_97 rfl
theorem k_48_14 : Ok M48 14 (oLA 0 15) := r_aload_n (j := 0) (by decide +kernel) rfl
theorem k_48_15 : Ok M48 15 (oGe 3 1 18) := r_get (idx := 15) (by decide +kernel) cd_3 1 (by decide) w_98 rfl
theorem k_48_18 : Ok M48 18 (oLI 1 19) := r_iload_n (j := 1) (by decide +kernel) rfl
theorem k_48_19 : Ok M48 19 (oAT 20) := r_iastore (by decide +kernel)
theorem k_48_20 : Ok M48 20 (oLA 0 21) := r_aload_n (j := 0) (by decide +kernel) rfl
theorem k_48_21 : Ok M48 21 (oS gDu 22) := r_dup (by decide +kernel)
theorem k_48_22 : Ok M48 22 (oGe 3 1 25) := r_get (idx := 15) (by decide +kernel) cd_3 1 (by decide) w_98 rfl
theorem k_48_25 : Ok M48 25 (oS (gKo (.int 1)) 26) := r_iconst (n := 1) (by decide +kernel) (by decide +kernel)
theorem k_48_26 : Ok M48 26 (oS (gI2 f_iadd) 27) := r_iadd (by decide +kernel)
theorem k_48_27 : Ok M48 27 (oPI 3 1 30) := r_putI (idx := 15) (by decide +kernel) cd_3 1 (by decide) w_98 rfl rfl (by decide +kernel)
theorem k_48_30 : Ok M48 30 (oLA 0 31) := r_aload_n (j := 0) (by decide +kernel) rfl
theorem k_48_31 : Ok M48 31 (oGe 3 1 34) := r_get (idx := 15) (by decide +kernel) cd_3 1 (by decide) w_98 rfl
theorem k_48_34 : Ok M48 34 (oRI) := r_ireturn rfl (by decide +kernel)
def B48_0 : List (Nat × aO) := [(0, oLA 0 1), (1, oGe 3 1 4), (4, oS (gKo (.int 160)) 7), (7, oB2 b_icmp_ge q_ge 30 10), (10, oLA 0 11), (11, oGe 3 0 14), (14, oLA 0 15), (15, oGe 3 1 18)]
theorem B48_0_ok : ∀ q ∈ B48_0, Ok M48 q.1 q.2 := List.forall_mem_cons.mpr ⟨k_48_0, List.forall_mem_cons.mpr ⟨k_48_1, List.forall_mem_cons.mpr ⟨k_48_4, List.forall_mem_cons.mpr ⟨k_48_7, List.forall_mem_cons.mpr ⟨k_48_10, List.forall_mem_cons.mpr ⟨k_48_11, List.forall_mem_cons.mpr ⟨k_48_14, List.forall_mem_cons.mpr ⟨k_48_15, fun _ h => absurd h List.not_mem_nil⟩⟩⟩⟩⟩⟩⟩⟩
def B48_1 : List (Nat × aO) := [(18, oLI 1 19), (19, oAT 20), (20, oLA 0 21), (21, oS gDu 22), (22, oGe 3 1 25), (25, oS (gKo (.int 1)) 26), (26, oS (gI2 f_iadd) 27), (27, oPI 3 1 30)]
theorem B48_1_ok : ∀ q ∈ B48_1, Ok M48 q.1 q.2 := List.forall_mem_cons.mpr ⟨k_48_18, List.forall_mem_cons.mpr ⟨k_48_19, List.forall_mem_cons.mpr ⟨k_48_20, List.forall_mem_cons.mpr ⟨k_48_21, List.forall_mem_cons.mpr ⟨k_48_22, List.forall_mem_cons.mpr ⟨k_48_25, List.forall_mem_cons.mpr ⟨k_48_26, List.forall_mem_cons.mpr ⟨k_48_27, fun _ h => absurd h List.not_mem_nil⟩⟩⟩⟩⟩⟩⟩⟩
def B48_2 : List (Nat × aO) := [(30, oLA 0 31), (31, oGe 3 1 34), (34, oRI)]
theorem B48_2_ok : ∀ q ∈ B48_2, Ok M48 q.1 q.2 := List.forall_mem_cons.mpr ⟨k_48_30, List.forall_mem_cons.mpr ⟨k_48_31, List.forall_mem_cons.mpr ⟨k_48_34, fun _ h => absurd h List.not_mem_nil⟩⟩⟩
def P48 : List (Nat × List (Nat × aO)) := [(15, B48_0), (27, B48_1), (34, B48_2)]
theorem P48_ok : ∀ b ∈ P48, ∀ q ∈ b.2, Ok M48 q.1 q.2 := List.forall_mem_cons.mpr ⟨B48_0_ok, List.forall_mem_cons.mpr ⟨B48_1_ok, List.forall_mem_cons.mpr ⟨B48_2_ok, fun _ h => absurd h List.not_mem_nil⟩⟩⟩
theorem k_49_0 : Ok M49 0 (oLA 0 1) := r_aload_n (j := 0) (by decide +kernel) rfl
theorem k_49_1 : Ok M49 1 (oGe 3 1 4) := r_get (idx := 15) (by decide +kernel) cd_3 1 (by decide) w_98 rfl
theorem k_49_4 : Ok M49 4 (oSI 1 2 5) := r_istore_n (j := 1) (by decide +kernel) rfl
theorem k_49_5 : Ok M49 5 (oLA 0 6) := r_aload_n (j := 0) (by decide +kernel) rfl
theorem k_49_6 : Ok M49 6 (oS (gKo (.int 0)) 7) := r_iconst (n := 0) (by decide +kernel) (by decide +kernel)
theorem k_49_7 : Ok M49 7 (oPI 3 1 10) := r_putI (idx := 15) (by decide +kernel) cd_3 1 (by decide) w_98 rfl rfl (by decide +kernel)
theorem k_49_10 : Ok M49 10 (oLI 1 11) := r_iload_n (j := 1) (by decide +kernel) rfl
theorem k_49_11 : Ok M49 11 (oRI) := r_ireturn rfl (by decide +kernel)
def B49_0 : List (Nat × aO) := [(0, oLA 0 1), (1, oGe 3 1 4), (4, oSI 1 2 5), (5, oLA 0 6), (6, oS (gKo (.int 0)) 7), (7, oPI 3 1 10), (10, oLI 1 11), (11, oRI)]
theorem B49_0_ok : ∀ q ∈ B49_0, Ok M49 q.1 q.2 := List.forall_mem_cons.mpr ⟨k_49_0, List.forall_mem_cons.mpr ⟨k_49_1, List.forall_mem_cons.mpr ⟨k_49_4, List.forall_mem_cons.mpr ⟨k_49_5, List.forall_mem_cons.mpr ⟨k_49_6, List.forall_mem_cons.mpr ⟨k_49_7, List.forall_mem_cons.mpr ⟨k_49_10, List.forall_mem_cons.mpr ⟨k_49_11, fun _ h => absurd h List.not_mem_nil⟩⟩⟩⟩⟩⟩⟩⟩
def P49 : List (Nat × List (Nat × aO)) := [(11, B49_0)]
theorem P49_ok : ∀ b ∈ P49, ∀ q ∈ b.2, Ok M49 q.1 q.2 := List.forall_mem_cons.mpr ⟨B49_0_ok, fun _ h => absurd h List.not_mem_nil⟩
theorem k_50_0 : Ok M50 0 (oLA 0 1) := r_aload_n (j := 0) (by decide +kernel) rfl
theorem k_50_1 : Ok M50 1 (oS (gKo (.int 0)) 2) := r_iconst (n := 0) (by decide +kernel) (by decide +kernel)
theorem k_50_2 : Ok M50 2 (oPI 3 3 5) := r_putI (idx := 22) (by decide +kernel) cd_3 3 (by decide) w_102 rfl rfl (by decide +kernel)
theorem k_50_5 : Ok M50 5 (oLA 0 6) := r_aload_n (j := 0) (by decide +kernel) rfl
theorem k_50_6 : Ok M50 6 (oS (gKo (.int 0)) 7) := r_iconst (n := 0) (by decide +kernel) (by decide +kernel)
theorem k_50_7 : Ok M50 7 (oPI 3 4 10) := r_putI (idx := 25) (by decide +kernel) cd_3 4 (by decide) w_104 rfl rfl (by decide +kernel)
theorem k_50_10 : Ok M50 10 (oLA 0 11) := r_aload_n (j := 0) (by decide +kernel) rfl
theorem k_50_11 : Ok M50 11 (oGe 3 3 14) := r_get (idx := 22) (by decide +kernel) cd_3 3 (by decide) w_102 rfl
theorem k_50_14 : Ok M50 14 (oLA 0 15) := r_aload_n (j := 0) (by decide +kernel) rfl
theorem k_50_15 : Ok M50 15 (oGe 3 1 18) := r_get (idx := 15) (by decide +kernel) cd_3 1 (by decide) w_98 rfl
theorem k_50_18 : Ok M50 18 (oB2 b_icmp_ge q_ge 58 21) := r_icmp_ge (off := 40) (by decide +kernel) (by decide +kernel)
theorem k_50_21 : Ok M50 21 (oLA 0 22) := r_aload_n (j := 0) (by decide +kernel) rfl
theorem k_50_22 : Ok M50 22 (oGe 3 4 25) := r_get (idx := 25) (by decide +kernel) cd_3 4 (by decide) w_104 rfl
theorem k_50_25 : Ok M50 25 (oS (gKo (.int 160)) 28) := r_sipush (n := 160) (by decide +kernel) (by decide +kernel)
theorem k_50_28 : Ok M50 28 (oB2 b_icmp_ge q_ge 58 31) := r_icmp_ge (off := 30) (by decide +kernel) (by decide +kernel)
theorem k_50_31 : Ok M50 31 (oLA 0 32) := r_aload_n (j := 0) (by decide +kernel) rfl
theorem k_50_32 : Ok M50 32 (oLA 1 33) := r_aload_n (j := 1) (by decide +kernel) rfl
theorem k_50_33 : Ok M50 33 (oCV 3 55 1) := r_callV (idx := 40) (by decide +kernel) w_342 cv_55
theorem k_50_36 : Ok M50 36 (oB1 b_if_ne q_ne 45 39) := r_if_ne (off := 9) (by decide +kernel) (by decide +kernel)
theorem k_50_39 : Ok M50 39 (oLA 0 40) := r_aload_n (j := 0) (by decide +kernel) rfl
theorem k_50_40 : Ok M50 40 (oCV 3 51 0) := r_callV (idx := 44) (by decide +kernel) w_401 cv_51
theorem k_50_43 : Ok M50 43 (oS (gKo (.int 0)) 44) := r_iconst (n := 0) (by decide +kernel) (by decide +kernel)
theorem k_50_44 : Ok M50 44 (oRZ) := r_zreturn rfl (by decide +kernel)
theorem k_50_45 : Ok M50 45 (oLA 0 46) := r_aload_n (j := 0) (by decide +kernel) rfl
theorem k_50_46 : Ok M50 46 (oS gDu 47) := r_dup (by decide +kernel)
theorem k_50_47 : Ok M50 47 (oGe 3 4 50) := r_get (idx := 25) (by decide +kernel) cd_3 4 (by decide) w_104 rfl
theorem k_50_50 : Ok M50 50 (oS (gKo (.int 1)) 51) := r_iconst (n := 1) (by decide +kernel) (by decide +kernel)
theorem k_50_51 : Ok M50 51 (oS (gI2 f_iadd) 52) := r_iadd (by decide +kernel)
theorem k_50_52 : Ok M50 52 (oPI 3 4 55) := r_putI (idx := 25) (by decide +kernel) cd_3 4 (by decide) w_104 rfl rfl (by decide +kernel)
theorem k_50_55 : Ok M50 55 (oGo 10) := r_goto (off := (-45)) (by decide +kernel) (by decide +kernel)
theorem k_50_58 : Ok M50 58 (oS (gKo (.int 1)) 59) := r_iconst (n := 1) (by decide +kernel) (by decide +kernel)
theorem k_50_59 : Ok M50 59 (oRZ) := r_zreturn rfl (by decide +kernel)
def B50_0 : List (Nat × aO) := [(0, oLA 0 1), (1, oS (gKo (.int 0)) 2), (2, oPI 3 3 5), (5, oLA 0 6), (6, oS (gKo (.int 0)) 7), (7, oPI 3 4 10), (10, oLA 0 11), (11, oGe 3 3 14)]
theorem B50_0_ok : ∀ q ∈ B50_0, Ok M50 q.1 q.2 := List.forall_mem_cons.mpr ⟨k_50_0, List.forall_mem_cons.mpr ⟨k_50_1, List.forall_mem_cons.mpr ⟨k_50_2, List.forall_mem_cons.mpr ⟨k_50_5, List.forall_mem_cons.mpr ⟨k_50_6, List.forall_mem_cons.mpr ⟨k_50_7, List.forall_mem_cons.mpr ⟨k_50_10, List.forall_mem_cons.mpr ⟨k_50_11, fun _ h => absurd h List.not_mem_nil⟩⟩⟩⟩⟩⟩⟩⟩
def B50_1 : List (Nat × aO) := [(14, oLA 0 15), (15, oGe 3 1 18), (18, oB2 b_icmp_ge q_ge 58 21), (21, oLA 0 22), (22, oGe 3 4 25), (25, oS (gKo (.int 160)) 28), (28, oB2 b_icmp_ge q_ge 58 31), (31, oLA 0 32)]
theorem B50_1_ok : ∀ q ∈ B50_1, Ok M50 q.1 q.2 := List.forall_mem_cons.mpr ⟨k_50_14, List.forall_mem_cons.mpr ⟨k_50_15, List.forall_mem_cons.mpr ⟨k_50_18, List.forall_mem_cons.mpr ⟨k_50_21, List.forall_mem_cons.mpr ⟨k_50_22, List.forall_mem_cons.mpr ⟨k_50_25, List.forall_mem_cons.mpr ⟨k_50_28, List.forall_mem_cons.mpr ⟨k_50_31, fun _ h => absurd h List.not_mem_nil⟩⟩⟩⟩⟩⟩⟩⟩
def B50_2 : List (Nat × aO) := [(32, oLA 1 33), (33, oCV 3 55 1), (36, oB1 b_if_ne q_ne 45 39), (39, oLA 0 40), (40, oCV 3 51 0), (43, oS (gKo (.int 0)) 44), (44, oRZ), (45, oLA 0 46)]
theorem B50_2_ok : ∀ q ∈ B50_2, Ok M50 q.1 q.2 := List.forall_mem_cons.mpr ⟨k_50_32, List.forall_mem_cons.mpr ⟨k_50_33, List.forall_mem_cons.mpr ⟨k_50_36, List.forall_mem_cons.mpr ⟨k_50_39, List.forall_mem_cons.mpr ⟨k_50_40, List.forall_mem_cons.mpr ⟨k_50_43, List.forall_mem_cons.mpr ⟨k_50_44, List.forall_mem_cons.mpr ⟨k_50_45, fun _ h => absurd h List.not_mem_nil⟩⟩⟩⟩⟩⟩⟩⟩
def B50_3 : List (Nat × aO) := [(46, oS gDu 47), (47, oGe 3 4 50), (50, oS (gKo (.int 1)) 51), (51, oS (gI2 f_iadd) 52), (52, oPI 3 4 55), (55, oGo 10), (58, oS (gKo (.int 1)) 59), (59, oRZ)]
theorem B50_3_ok : ∀ q ∈ B50_3, Ok M50 q.1 q.2 := List.forall_mem_cons.mpr ⟨k_50_46, List.forall_mem_cons.mpr ⟨k_50_47, List.forall_mem_cons.mpr ⟨k_50_50, List.forall_mem_cons.mpr ⟨k_50_51, List.forall_mem_cons.mpr ⟨k_50_52, List.forall_mem_cons.mpr ⟨k_50_55, List.forall_mem_cons.mpr ⟨k_50_58, List.forall_mem_cons.mpr ⟨k_50_59, fun _ h => absurd h List.not_mem_nil⟩⟩⟩⟩⟩⟩⟩⟩
def P50 : List (Nat × List (Nat × aO)) := [(11, B50_0), (31, B50_1), (45, B50_2), (59, B50_3)]
theorem P50_ok : ∀ b ∈ P50, ∀ q ∈ b.2, Ok M50 q.1 q.2 := List.forall_mem_cons.mpr ⟨B50_0_ok, List.forall_mem_cons.mpr ⟨B50_1_ok, List.forall_mem_cons.mpr ⟨B50_2_ok, List.forall_mem_cons.mpr ⟨B50_3_ok, fun _ h => absurd h List.not_mem_nil⟩⟩⟩⟩
