theorem k_167_0 : Ok M167 0 (oK (.long 2269) 3) := r_ldc2 (i := 249) (by decide +kernel) w_1035
theorem k_167_3 : Ok M167 3 (oSL 1 5 4) := r_lstore_n (j := 1) (by decide +kernel) rfl
theorem k_167_4 : Ok M167 4 (oS (gKo (.int 0)) 5) := r_iconst (n := 0) (by decide +kernel) (by decide +kernel)
theorem k_167_5 : Ok M167 5 (oSI 3 5 6) := r_istore_n (j := 3) (by decide +kernel) rfl
theorem k_167_6 : Ok M167 6 (oLI 3 7) := r_iload_n (j := 3) (by decide +kernel) rfl
theorem k_167_7 : Ok M167 7 (oS (gKo (.int 10)) 9) := r_bipush (n := 10) (by decide +kernel) (by decide +kernel)
theorem k_167_9 : Ok M167 9 (oB2 b_icmp_ge q_ge 31 12) := r_icmp_ge (off := 22) (by decide +kernel) (by decide +kernel)
theorem k_167_12 : Ok M167 12 (oK (.long 31) 15) := r_ldc2 (i := 251) (by decide +kernel) w_1036
theorem k_167_15 : Ok M167 15 (oLL 1 16) := r_lload_n (j := 1) (by decide +kernel) rfl
theorem k_167_16 : Ok M167 16 (oS (gL2 f_lmul) 17) := r_lmul (by decide +kernel)
theorem k_167_17 : Ok M167 17 (oLA 0 18) := r_aload_n (j := 0) (by decide +kernel) rfl
theorem k_167_18 : Ok M167 18 (oLI 3 19) := r_iload_n (j := 3) (by decide +kernel) rfl
theorem k_167_19 : Ok M167 19 (oCV 5 165 1) := r_callV (idx := 246) (by decide +kernel) w_1027 cv_165
theorem k_167_22 : Ok M167 22 (oS gIL 23) := r_i2l (by decide +kernel)
theorem k_167_23 : Ok M167 23 (oS (gL2 f_ladd) 24) := r_ladd (by decide +kernel)
theorem k_167_24 : Ok M167 24 (oSL 1 5 25) := r_lstore_n (j := 1) (by decide +kernel) rfl
theorem k_167_25 : Ok M167 25 (oInc 3 1 5 28) := r_iinc (n := 1) (by decide +kernel) (by decide +kernel)
theorem k_167_28 : Ok M167 28 (oGo 6) := r_goto (off := (-22)) (by decide +kernel) (by decide +kernel)
theorem k_167_31 : Ok M167 31 (oS (gKo (.int 0)) 32) := r_iconst (n := 0) (by decide +kernel) (by decide +kernel)
theorem k_167_32 : Ok M167 32 (oSI 3 5 33) := r_istore_n (j := 3) (by decide +kernel) rfl
theorem k_167_33 : Ok M167 33 (oLI 3 34) := r_iload_n (j := 3) (by decide +kernel) rfl
theorem k_167_34 : Ok M167 34 (oLA 0 35) := r_aload_n (j := 0) (by decide +kernel) rfl
theorem k_167_35 : Ok M167 35 (oGe 5 0 38) := r_get (idx := 7) (by decide +kernel) cd_5 0 (by decide) w_678 rfl
theorem k_167_38 : Ok M167 38 (oS (gKo (.int 0)) 39) := r_iconst (n := 0) (by decide +kernel) (by decide +kernel)
theorem k_167_39 : Ok M167 39 (oAI 40) := r_iaload (by decide +kernel)
theorem k_167_40 : Ok M167 40 (oB2 b_icmp_ge q_ge 79 43) := r_icmp_ge (off := 39) (by decide +kernel) (by decide +kernel)
theorem k_167_43 : Ok M167 43 (oS (gKo (.int 0)) 44) := r_iconst (n := 0) (by decide +kernel) (by decide +kernel)
theorem k_167_44 : Ok M167 44 (oSI 4 5 46) := r_istore (by decide +kernel)
theorem k_167_46 : Ok M167 46 (oLI 4 48) := r_iload (by decide +kernel)
theorem k_167_48 : Ok M167 48 (oS (gKo (.int 4)) 49) := r_iconst (n := 4) (by decide +kernel) (by decide +kernel)
theorem k_167_49 : Ok M167 49 (oB2 b_icmp_ge q_ge 73 52) := r_icmp_ge (off := 24) (by decide +kernel) (by decide +kernel)
theorem k_167_52 : Ok M167 52 (oK (.long 31) 55) := r_ldc2 (i := 251) (by decide +kernel) w_1036
theorem k_167_55 : Ok M167 55 (oLL 1 56) := r_lload_n (j := 1) (by decide +kernel) rfl
theorem k_167_56 : Ok M167 56 (oS (gL2 f_lmul) 57) := r_lmul (by decide +kernel)
theorem k_167_57 : Ok M167 57 (oLA 0 58) := r_aload_n (j := 0) (by decide +kernel) rfl
theorem k_167_58 : Ok M167 58 (oLI 3 59) := r_iload_n (j := 3) (by decide +kernel) rfl
theorem k_167_59 : Ok M167 59 (oLI 4 61) := r_iload (by decide +kernel)
theorem k_167_61 : Ok M167 61 (oCV 5 131 2) := r_callV (idx := 162) (by decide +kernel) w_864 cv_131
theorem k_167_64 : Ok M167 64 (oS gIL 65) := r_i2l (by decide +kernel)
theorem k_167_65 : Ok M167 65 (oS (gL2 f_ladd) 66) := r_ladd (by decide +kernel)
theorem k_167_66 : Ok M167 66 (oSL 1 5 67) := r_lstore_n (j := 1) (by decide +kernel) rfl
theorem k_167_67 : Ok M167 67 (oInc 4 1 5 70) := r_iinc (n := 1) (by decide +kernel) (by decide +kernel)
theorem k_167_70 : Ok M167 70 (oGo 46) := r_goto (off := (-24)) (by decide +kernel) (by decide +kernel)
theorem k_167_73 : Ok M167 73 (oInc 3 1 5 76) := r_iinc (n := 1) (by decide +kernel) (by decide +kernel)
theorem k_167_76 : Ok M167 76 (oGo 33) := r_goto (off := (-43)) (by decide +kernel) (by decide +kernel)
theorem k_167_79 : Ok M167 79 (oS (gKo (.int 0)) 80) := r_iconst (n := 0) (by decide +kernel) (by decide +kernel)
theorem k_167_80 : Ok M167 80 (oSI 3 5 81) := r_istore_n (j := 3) (by decide +kernel) rfl
theorem k_167_81 : Ok M167 81 (oLI 3 82) := r_iload_n (j := 3) (by decide +kernel) rfl
theorem k_167_82 : Ok M167 82 (oLA 0 83) := r_aload_n (j := 0) (by decide +kernel) rfl
theorem k_167_83 : Ok M167 83 (oGe 5 0 86) := r_get (idx := 7) (by decide +kernel) cd_5 0 (by decide) w_678 rfl
theorem k_167_86 : Ok M167 86 (oS (gKo (.int 1)) 87) := r_iconst (n := 1) (by decide +kernel) (by decide +kernel)
theorem k_167_87 : Ok M167 87 (oAI 88) := r_iaload (by decide +kernel)
theorem k_167_88 : Ok M167 88 (oB2 b_icmp_ge q_ge 196 91) := r_icmp_ge (off := 108) (by decide +kernel) (by decide +kernel)
theorem k_167_91 : Ok M167 91 (oS (gKo (.int 0)) 92) := r_iconst (n := 0) (by decide +kernel) (by decide +kernel)
theorem k_167_92 : Ok M167 92 (oSI 4 5 94) := r_istore (by decide +kernel)
theorem k_167_94 : Ok M167 94 (oLI 4 96) := r_iload (by decide +kernel)
theorem k_167_96 : Ok M167 96 (oS (gKo (.int 6)) 98) := r_bipush (n := 6) (by decide +kernel) (by decide +kernel)
theorem k_167_98 : Ok M167 98 (oB2 b_icmp_ge q_ge 122 101) := r_icmp_ge (off := 24) (by decide +kernel) (by decide +kernel)
theorem k_167_101 : Ok M167 101 (oK (.long 31) 104) := r_ldc2 (i := 251) (by decide +kernel) w_1036
theorem k_167_104 : Ok M167 104 (oLL 1 105) := r_lload_n (j := 1) (by decide +kernel) rfl
theorem k_167_105 : Ok M167 105 (oS (gL2 f_lmul) 106) := r_lmul (by decide +kernel)
theorem k_167_106 : Ok M167 106 (oLA 0 107) := r_aload_n (j := 0) (by decide +kernel) rfl
theorem k_167_107 : Ok M167 107 (oLI 3 108) := r_iload_n (j := 3) (by decide +kernel) rfl
theorem k_167_108 : Ok M167 108 (oLI 4 110) := r_iload (by decide +kernel)
theorem k_167_110 : Ok M167 110 (oCV 5 133 2) := r_callV (idx := 179) (by decide +kernel) w_877 cv_133
theorem k_167_113 : Ok M167 113 (oS gIL 114) := r_i2l (by decide +kernel)
theorem k_167_114 : Ok M167 114 (oS (gL2 f_ladd) 115) := r_ladd (by decide +kernel)
theorem k_167_115 : Ok M167 115 (oSL 1 5 116) := r_lstore_n (j := 1) (by decide +kernel) rfl
theorem k_167_116 : Ok M167 116 (oInc 4 1 5 119) := r_iinc (n := 1) (by decide +kernel) (by decide +kernel)
theorem k_167_119 : Ok M167 119 (oGo 94) := r_goto (off := (-25)) (by decide +kernel) (by decide +kernel)
theorem k_167_122 : Ok M167 122 (oS (gKo (.int 0)) 123) := r_iconst (n := 0) (by decide +kernel) (by decide +kernel)
theorem k_167_123 : Ok M167 123 (oSI 4 5 125) := r_istore (by decide +kernel)
theorem k_167_125 : Ok M167 125 (oLI 4 127) := r_iload (by decide +kernel)
theorem k_167_127 : Ok M167 127 (oLA 0 128) := r_aload_n (j := 0) (by decide +kernel) rfl
theorem k_167_128 : Ok M167 128 (oGe 5 0 131) := r_get (idx := 7) (by decide +kernel) cd_5 0 (by decide) w_678 rfl
theorem k_167_131 : Ok M167 131 (oS (gKo (.int 0)) 132) := r_iconst (n := 0) (by decide +kernel) (by decide +kernel)
theorem k_167_132 : Ok M167 132 (oAI 133) := r_iaload (by decide +kernel)
theorem k_167_133 : Ok M167 133 (oB2 b_icmp_ge q_ge 157 136) := r_icmp_ge (off := 24) (by decide +kernel) (by decide +kernel)
theorem k_167_136 : Ok M167 136 (oK (.long 31) 139) := r_ldc2 (i := 251) (by decide +kernel) w_1036
theorem k_167_139 : Ok M167 139 (oLL 1 140) := r_lload_n (j := 1) (by decide +kernel) rfl
theorem k_167_140 : Ok M167 140 (oS (gL2 f_lmul) 141) := r_lmul (by decide +kernel)
theorem k_167_141 : Ok M167 141 (oLA 0 142) := r_aload_n (j := 0) (by decide +kernel) rfl
theorem k_167_142 : Ok M167 142 (oLI 3 143) := r_iload_n (j := 3) (by decide +kernel) rfl
theorem k_167_143 : Ok M167 143 (oLI 4 145) := r_iload (by decide +kernel)
theorem k_167_145 : Ok M167 145 (oCV 5 104 2) := r_callV (idx := 155) (by decide +kernel) w_885 cv_104
theorem k_167_148 : Ok M167 148 (oS gIL 149) := r_i2l (by decide +kernel)
theorem k_167_149 : Ok M167 149 (oS (gL2 f_ladd) 150) := r_ladd (by decide +kernel)
theorem k_167_150 : Ok M167 150 (oSL 1 5 151) := r_lstore_n (j := 1) (by decide +kernel) rfl
theorem k_167_151 : Ok M167 151 (oInc 4 1 5 154) := r_iinc (n := 1) (by decide +kernel) (by decide +kernel)
theorem k_167_154 : Ok M167 154 (oGo 125) := r_goto (off := (-29)) (by decide +kernel) (by decide +kernel)
theorem k_167_157 : Ok M167 157 (oK (.long 31) 160) := r_ldc2 (i := 251) (by decide +kernel) w_1036
theorem k_167_160 : Ok M167 160 (oLL 1 161) := r_lload_n (j := 1) (by decide +kernel) rfl
theorem k_167_161 : Ok M167 161 (oS (gL2 f_lmul) 162) := r_lmul (by decide +kernel)
theorem k_167_162 : Ok M167 162 (oLA 0 163) := r_aload_n (j := 0) (by decide +kernel) rfl
theorem k_167_163 : Ok M167 163 (oLI 3 164) := r_iload_n (j := 3) (by decide +kernel) rfl
theorem k_167_164 : Ok M167 164 (oLA 0 165) := r_aload_n (j := 0) (by decide +kernel) rfl
theorem k_167_165 : Ok M167 165 (oGe 5 0 168) := r_get (idx := 7) (by decide +kernel) cd_5 0 (by decide) w_678 rfl
theorem k_167_168 : Ok M167 168 (oS (gKo (.int 8)) 170) := r_bipush (n := 8) (by decide +kernel) (by decide +kernel)
theorem k_167_170 : Ok M167 170 (oAI 171) := r_iaload (by decide +kernel)
theorem k_167_171 : Ok M167 171 (oCV 5 154 2) := r_callV (idx := 233) (by decide +kernel) w_951 cv_154
theorem k_167_174 : Ok M167 174 (oS gIL 175) := r_i2l (by decide +kernel)
theorem k_167_175 : Ok M167 175 (oS (gL2 f_ladd) 176) := r_ladd (by decide +kernel)
theorem k_167_176 : Ok M167 176 (oSL 1 5 177) := r_lstore_n (j := 1) (by decide +kernel) rfl
theorem k_167_177 : Ok M167 177 (oK (.long 31) 180) := r_ldc2 (i := 251) (by decide +kernel) w_1036
theorem k_167_180 : Ok M167 180 (oLL 1 181) := r_lload_n (j := 1) (by decide +kernel) rfl
theorem k_167_181 : Ok M167 181 (oS (gL2 f_lmul) 182) := r_lmul (by decide +kernel)
theorem k_167_182 : Ok M167 182 (oLA 0 183) := r_aload_n (j := 0) (by decide +kernel) rfl
theorem k_167_183 : Ok M167 183 (oLI 3 184) := r_iload_n (j := 3) (by decide +kernel) rfl
theorem k_167_184 : Ok M167 184 (oCV 5 162 1) := r_callV (idx := 239) (by decide +kernel) w_1009 cv_162
theorem k_167_187 : Ok M167 187 (oS gIL 188) := r_i2l (by decide +kernel)
theorem k_167_188 : Ok M167 188 (oS (gL2 f_ladd) 189) := r_ladd (by decide +kernel)
theorem k_167_189 : Ok M167 189 (oSL 1 5 190) := r_lstore_n (j := 1) (by decide +kernel) rfl
theorem k_167_190 : Ok M167 190 (oInc 3 1 5 193) := r_iinc (n := 1) (by decide +kernel) (by decide +kernel)
theorem k_167_193 : Ok M167 193 (oGo 81) := r_goto (off := (-112)) (by decide +kernel) (by decide +kernel)
theorem k_167_196 : Ok M167 196 (oLL 1 197) := r_lload_n (j := 1) (by decide +kernel) rfl
theorem k_167_197 : Ok M167 197 (oRL) := r_lreturn rfl (by decide +kernel)
def B167_0 : List (Nat × aO) := [(0, oK (.long 2269) 3), (3, oSL 1 5 4), (4, oS (gKo (.int 0)) 5), (5, oSI 3 5 6), (6, oLI 3 7), (7, oS (gKo (.int 10)) 9), (9, oB2 b_icmp_ge q_ge 31 12), (12, oK (.long 31) 15)]
theorem B167_0_ok : ∀ q ∈ B167_0, Ok M167 q.1 q.2 := List.forall_mem_cons.mpr ⟨k_167_0, List.forall_mem_cons.mpr ⟨k_167_3, List.forall_mem_cons.mpr ⟨k_167_4, List.forall_mem_cons.mpr ⟨k_167_5, List.forall_mem_cons.mpr ⟨k_167_6, List.forall_mem_cons.mpr ⟨k_167_7, List.forall_mem_cons.mpr ⟨k_167_9, List.forall_mem_cons.mpr ⟨k_167_12, fun _ h => absurd h List.not_mem_nil⟩⟩⟩⟩⟩⟩⟩⟩
def B167_1 : List (Nat × aO) := [(15, oLL 1 16), (16, oS (gL2 f_lmul) 17), (17, oLA 0 18), (18, oLI 3 19), (19, oCV 5 165 1), (22, oS gIL 23), (23, oS (gL2 f_ladd) 24), (24, oSL 1 5 25)]
theorem B167_1_ok : ∀ q ∈ B167_1, Ok M167 q.1 q.2 := List.forall_mem_cons.mpr ⟨k_167_15, List.forall_mem_cons.mpr ⟨k_167_16, List.forall_mem_cons.mpr ⟨k_167_17, List.forall_mem_cons.mpr ⟨k_167_18, List.forall_mem_cons.mpr ⟨k_167_19, List.forall_mem_cons.mpr ⟨k_167_22, List.forall_mem_cons.mpr ⟨k_167_23, List.forall_mem_cons.mpr ⟨k_167_24, fun _ h => absurd h List.not_mem_nil⟩⟩⟩⟩⟩⟩⟩⟩
def B167_2 : List (Nat × aO) := [(25, oInc 3 1 5 28), (28, oGo 6), (31, oS (gKo (.int 0)) 32), (32, oSI 3 5 33), (33, oLI 3 34), (34, oLA 0 35), (35, oGe 5 0 38), (38, oS (gKo (.int 0)) 39)]
theorem B167_2_ok : ∀ q ∈ B167_2, Ok M167 q.1 q.2 := List.forall_mem_cons.mpr ⟨k_167_25, List.forall_mem_cons.mpr ⟨k_167_28, List.forall_mem_cons.mpr ⟨k_167_31, List.forall_mem_cons.mpr ⟨k_167_32, List.forall_mem_cons.mpr ⟨k_167_33, List.forall_mem_cons.mpr ⟨k_167_34, List.forall_mem_cons.mpr ⟨k_167_35, List.forall_mem_cons.mpr ⟨k_167_38, fun _ h => absurd h List.not_mem_nil⟩⟩⟩⟩⟩⟩⟩⟩
def B167_3 : List (Nat × aO) := [(39, oAI 40), (40, oB2 b_icmp_ge q_ge 79 43), (43, oS (gKo (.int 0)) 44), (44, oSI 4 5 46), (46, oLI 4 48), (48, oS (gKo (.int 4)) 49), (49, oB2 b_icmp_ge q_ge 73 52), (52, oK (.long 31) 55)]
theorem B167_3_ok : ∀ q ∈ B167_3, Ok M167 q.1 q.2 := List.forall_mem_cons.mpr ⟨k_167_39, List.forall_mem_cons.mpr ⟨k_167_40, List.forall_mem_cons.mpr ⟨k_167_43, List.forall_mem_cons.mpr ⟨k_167_44, List.forall_mem_cons.mpr ⟨k_167_46, List.forall_mem_cons.mpr ⟨k_167_48, List.forall_mem_cons.mpr ⟨k_167_49, List.forall_mem_cons.mpr ⟨k_167_52, fun _ h => absurd h List.not_mem_nil⟩⟩⟩⟩⟩⟩⟩⟩
def B167_4 : List (Nat × aO) := [(55, oLL 1 56), (56, oS (gL2 f_lmul) 57), (57, oLA 0 58), (58, oLI 3 59), (59, oLI 4 61), (61, oCV 5 131 2), (64, oS gIL 65), (65, oS (gL2 f_ladd) 66)]
theorem B167_4_ok : ∀ q ∈ B167_4, Ok M167 q.1 q.2 := List.forall_mem_cons.mpr ⟨k_167_55, List.forall_mem_cons.mpr ⟨k_167_56, List.forall_mem_cons.mpr ⟨k_167_57, List.forall_mem_cons.mpr ⟨k_167_58, List.forall_mem_cons.mpr ⟨k_167_59, List.forall_mem_cons.mpr ⟨k_167_61, List.forall_mem_cons.mpr ⟨k_167_64, List.forall_mem_cons.mpr ⟨k_167_65, fun _ h => absurd h List.not_mem_nil⟩⟩⟩⟩⟩⟩⟩⟩
def B167_5 : List (Nat × aO) := [(66, oSL 1 5 67), (67, oInc 4 1 5 70), (70, oGo 46), (73, oInc 3 1 5 76), (76, oGo 33), (79, oS (gKo (.int 0)) 80), (80, oSI 3 5 81), (81, oLI 3 82)]
theorem B167_5_ok : ∀ q ∈ B167_5, Ok M167 q.1 q.2 := List.forall_mem_cons.mpr ⟨k_167_66, List.forall_mem_cons.mpr ⟨k_167_67, List.forall_mem_cons.mpr ⟨k_167_70, List.forall_mem_cons.mpr ⟨k_167_73, List.forall_mem_cons.mpr ⟨k_167_76, List.forall_mem_cons.mpr ⟨k_167_79, List.forall_mem_cons.mpr ⟨k_167_80, List.forall_mem_cons.mpr ⟨k_167_81, fun _ h => absurd h List.not_mem_nil⟩⟩⟩⟩⟩⟩⟩⟩
def B167_6 : List (Nat × aO) := [(82, oLA 0 83), (83, oGe 5 0 86), (86, oS (gKo (.int 1)) 87), (87, oAI 88), (88, oB2 b_icmp_ge q_ge 196 91), (91, oS (gKo (.int 0)) 92), (92, oSI 4 5 94), (94, oLI 4 96)]
theorem B167_6_ok : ∀ q ∈ B167_6, Ok M167 q.1 q.2 := List.forall_mem_cons.mpr ⟨k_167_82, List.forall_mem_cons.mpr ⟨k_167_83, List.forall_mem_cons.mpr ⟨k_167_86, List.forall_mem_cons.mpr ⟨k_167_87, List.forall_mem_cons.mpr ⟨k_167_88, List.forall_mem_cons.mpr ⟨k_167_91, List.forall_mem_cons.mpr ⟨k_167_92, List.forall_mem_cons.mpr ⟨k_167_94, fun _ h => absurd h List.not_mem_nil⟩⟩⟩⟩⟩⟩⟩⟩
def B167_7 : List (Nat × aO) := [(96, oS (gKo (.int 6)) 98), (98, oB2 b_icmp_ge q_ge 122 101), (101, oK (.long 31) 104), (104, oLL 1 105), (105, oS (gL2 f_lmul) 106), (106, oLA 0 107), (107, oLI 3 108), (108, oLI 4 110)]
theorem B167_7_ok : ∀ q ∈ B167_7, Ok M167 q.1 q.2 := List.forall_mem_cons.mpr ⟨k_167_96, List.forall_mem_cons.mpr ⟨k_167_98, List.forall_mem_cons.mpr ⟨k_167_101, List.forall_mem_cons.mpr ⟨k_167_104, List.forall_mem_cons.mpr ⟨k_167_105, List.forall_mem_cons.mpr ⟨k_167_106, List.forall_mem_cons.mpr ⟨k_167_107, List.forall_mem_cons.mpr ⟨k_167_108, fun _ h => absurd h List.not_mem_nil⟩⟩⟩⟩⟩⟩⟩⟩
def B167_8 : List (Nat × aO) := [(110, oCV 5 133 2), (113, oS gIL 114), (114, oS (gL2 f_ladd) 115), (115, oSL 1 5 116), (116, oInc 4 1 5 119), (119, oGo 94), (122, oS (gKo (.int 0)) 123), (123, oSI 4 5 125)]
theorem B167_8_ok : ∀ q ∈ B167_8, Ok M167 q.1 q.2 := List.forall_mem_cons.mpr ⟨k_167_110, List.forall_mem_cons.mpr ⟨k_167_113, List.forall_mem_cons.mpr ⟨k_167_114, List.forall_mem_cons.mpr ⟨k_167_115, List.forall_mem_cons.mpr ⟨k_167_116, List.forall_mem_cons.mpr ⟨k_167_119, List.forall_mem_cons.mpr ⟨k_167_122, List.forall_mem_cons.mpr ⟨k_167_123, fun _ h => absurd h List.not_mem_nil⟩⟩⟩⟩⟩⟩⟩⟩
def B167_9 : List (Nat × aO) := [(125, oLI 4 127), (127, oLA 0 128), (128, oGe 5 0 131), (131, oS (gKo (.int 0)) 132), (132, oAI 133), (133, oB2 b_icmp_ge q_ge 157 136), (136, oK (.long 31) 139), (139, oLL 1 140)]
theorem B167_9_ok : ∀ q ∈ B167_9, Ok M167 q.1 q.2 := List.forall_mem_cons.mpr ⟨k_167_125, List.forall_mem_cons.mpr ⟨k_167_127, List.forall_mem_cons.mpr ⟨k_167_128, List.forall_mem_cons.mpr ⟨k_167_131, List.forall_mem_cons.mpr ⟨k_167_132, List.forall_mem_cons.mpr ⟨k_167_133, List.forall_mem_cons.mpr ⟨k_167_136, List.forall_mem_cons.mpr ⟨k_167_139, fun _ h => absurd h List.not_mem_nil⟩⟩⟩⟩⟩⟩⟩⟩
def B167_10 : List (Nat × aO) := [(140, oS (gL2 f_lmul) 141), (141, oLA 0 142), (142, oLI 3 143), (143, oLI 4 145), (145, oCV 5 104 2), (148, oS gIL 149), (149, oS (gL2 f_ladd) 150), (150, oSL 1 5 151)]
theorem B167_10_ok : ∀ q ∈ B167_10, Ok M167 q.1 q.2 := List.forall_mem_cons.mpr ⟨k_167_140, List.forall_mem_cons.mpr ⟨k_167_141, List.forall_mem_cons.mpr ⟨k_167_142, List.forall_mem_cons.mpr ⟨k_167_143, List.forall_mem_cons.mpr ⟨k_167_145, List.forall_mem_cons.mpr ⟨k_167_148, List.forall_mem_cons.mpr ⟨k_167_149, List.forall_mem_cons.mpr ⟨k_167_150, fun _ h => absurd h List.not_mem_nil⟩⟩⟩⟩⟩⟩⟩⟩
def B167_11 : List (Nat × aO) := [(151, oInc 4 1 5 154), (154, oGo 125), (157, oK (.long 31) 160), (160, oLL 1 161), (161, oS (gL2 f_lmul) 162), (162, oLA 0 163), (163, oLI 3 164), (164, oLA 0 165)]
theorem B167_11_ok : ∀ q ∈ B167_11, Ok M167 q.1 q.2 := List.forall_mem_cons.mpr ⟨k_167_151, List.forall_mem_cons.mpr ⟨k_167_154, List.forall_mem_cons.mpr ⟨k_167_157, List.forall_mem_cons.mpr ⟨k_167_160, List.forall_mem_cons.mpr ⟨k_167_161, List.forall_mem_cons.mpr ⟨k_167_162, List.forall_mem_cons.mpr ⟨k_167_163, List.forall_mem_cons.mpr ⟨k_167_164, fun _ h => absurd h List.not_mem_nil⟩⟩⟩⟩⟩⟩⟩⟩
def B167_12 : List (Nat × aO) := [(165, oGe 5 0 168), (168, oS (gKo (.int 8)) 170), (170, oAI 171), (171, oCV 5 154 2), (174, oS gIL 175), (175, oS (gL2 f_ladd) 176), (176, oSL 1 5 177), (177, oK (.long 31) 180)]
theorem B167_12_ok : ∀ q ∈ B167_12, Ok M167 q.1 q.2 := List.forall_mem_cons.mpr ⟨k_167_165, List.forall_mem_cons.mpr ⟨k_167_168, List.forall_mem_cons.mpr ⟨k_167_170, List.forall_mem_cons.mpr ⟨k_167_171, List.forall_mem_cons.mpr ⟨k_167_174, List.forall_mem_cons.mpr ⟨k_167_175, List.forall_mem_cons.mpr ⟨k_167_176, List.forall_mem_cons.mpr ⟨k_167_177, fun _ h => absurd h List.not_mem_nil⟩⟩⟩⟩⟩⟩⟩⟩
def B167_13 : List (Nat × aO) := [(180, oLL 1 181), (181, oS (gL2 f_lmul) 182), (182, oLA 0 183), (183, oLI 3 184), (184, oCV 5 162 1), (187, oS gIL 188), (188, oS (gL2 f_ladd) 189), (189, oSL 1 5 190)]
theorem B167_13_ok : ∀ q ∈ B167_13, Ok M167 q.1 q.2 := List.forall_mem_cons.mpr ⟨k_167_180, List.forall_mem_cons.mpr ⟨k_167_181, List.forall_mem_cons.mpr ⟨k_167_182, List.forall_mem_cons.mpr ⟨k_167_183, List.forall_mem_cons.mpr ⟨k_167_184, List.forall_mem_cons.mpr ⟨k_167_187, List.forall_mem_cons.mpr ⟨k_167_188, List.forall_mem_cons.mpr ⟨k_167_189, fun _ h => absurd h List.not_mem_nil⟩⟩⟩⟩⟩⟩⟩⟩
def B167_14 : List (Nat × aO) := [(190, oInc 3 1 5 193), (193, oGo 81), (196, oLL 1 197), (197, oRL)]
theorem B167_14_ok : ∀ q ∈ B167_14, Ok M167 q.1 q.2 := List.forall_mem_cons.mpr ⟨k_167_190, List.forall_mem_cons.mpr ⟨k_167_193, List.forall_mem_cons.mpr ⟨k_167_196, List.forall_mem_cons.mpr ⟨k_167_197, fun _ h => absurd h List.not_mem_nil⟩⟩⟩⟩
def P167 : List (Nat × List (Nat × aO)) := [(12, B167_0), (24, B167_1), (38, B167_2), (52, B167_3), (65, B167_4), (81, B167_5), (94, B167_6), (108, B167_7), (123, B167_8), (139, B167_9), (150, B167_10), (164, B167_11), (177, B167_12), (189, B167_13), (197, B167_14)]
theorem P167_ok : ∀ b ∈ P167, ∀ q ∈ b.2, Ok M167 q.1 q.2 := List.forall_mem_cons.mpr ⟨B167_0_ok, List.forall_mem_cons.mpr ⟨B167_1_ok, List.forall_mem_cons.mpr ⟨B167_2_ok, List.forall_mem_cons.mpr ⟨B167_3_ok, List.forall_mem_cons.mpr ⟨B167_4_ok, List.forall_mem_cons.mpr ⟨B167_5_ok, List.forall_mem_cons.mpr ⟨B167_6_ok, List.forall_mem_cons.mpr ⟨B167_7_ok, List.forall_mem_cons.mpr ⟨B167_8_ok, List.forall_mem_cons.mpr ⟨B167_9_ok, List.forall_mem_cons.mpr ⟨B167_10_ok, List.forall_mem_cons.mpr ⟨B167_11_ok, List.forall_mem_cons.mpr ⟨B167_12_ok, List.forall_mem_cons.mpr ⟨B167_13_ok, List.forall_mem_cons.mpr ⟨B167_14_ok, fun _ h => absurd h List.not_mem_nil⟩⟩⟩⟩⟩⟩⟩⟩⟩⟩⟩⟩⟩⟩⟩
theorem k_168_0 : Ok M168 0 (oLI 0 1) := r_iload_n (j := 0) (by decide +kernel) rfl
theorem k_168_1 : Ok M168 1 (oLI 0 2) := r_iload_n (j := 0) (by decide +kernel) rfl
theorem k_168_2 : Ok M168 2 (oS (gKo (.int 1)) 3) := r_iconst (n := 1) (by decide +kernel) (by decide +kernel)
theorem k_168_3 : Ok M168 3 (oS (gI2 f_iushr) 4) := r_iushr (by decide +kernel)
theorem k_168_4 : Ok M168 4 (oK (.int 1431655765) 7) := r_ldcw (i := 265) (by decide +kernel) w_564
theorem k_168_7 : Ok M168 7 (oS (gI2 f_iand) 8) := r_iand (by decide +kernel)
theorem k_168_8 : Ok M168 8 (oS (gI2 f_isub) 9) := r_isub (by decide +kernel)
theorem k_168_9 : Ok M168 9 (oSI 0 1 10) := r_istore_n (j := 0) (by decide +kernel) rfl
theorem k_168_10 : Ok M168 10 (oLI 0 11) := r_iload_n (j := 0) (by decide +kernel) rfl
theorem k_168_11 : Ok M168 11 (oK (.int 858993459) 14) := r_ldcw (i := 266) (by decide +kernel) w_565
theorem k_168_14 : Ok M168 14 (oS (gI2 f_iand) 15) := r_iand (by decide +kernel)
theorem k_168_15 : Ok M168 15 (oLI 0 16) := r_iload_n (j := 0) (by decide +kernel) rfl
theorem k_168_16 : Ok M168 16 (oS (gKo (.int 2)) 17) := r_iconst (n := 2) (by decide +kernel) (by decide +kernel)
theorem k_168_17 : Ok M168 17 (oS (gI2 f_iushr) 18) := r_iushr (by decide +kernel)
theorem k_168_18 : Ok M168 18 (oK (.int 858993459) 21) := r_ldcw (i := 266) (by decide +kernel) w_565
theorem k_168_21 : Ok M168 21 (oS (gI2 f_iand) 22) := r_iand (by decide +kernel)
theorem k_168_22 : Ok M168 22 (oS (gI2 f_iadd) 23) := r_iadd (by decide +kernel)
theorem k_168_23 : Ok M168 23 (oSI 0 1 24) := r_istore_n (j := 0) (by decide +kernel) rfl
theorem k_168_24 : Ok M168 24 (oLI 0 25) := r_iload_n (j := 0) (by decide +kernel) rfl
theorem k_168_25 : Ok M168 25 (oLI 0 26) := r_iload_n (j := 0) (by decide +kernel) rfl
theorem k_168_26 : Ok M168 26 (oS (gKo (.int 4)) 27) := r_iconst (n := 4) (by decide +kernel) (by decide +kernel)
theorem k_168_27 : Ok M168 27 (oS (gI2 f_iushr) 28) := r_iushr (by decide +kernel)
theorem k_168_28 : Ok M168 28 (oS (gI2 f_iadd) 29) := r_iadd (by decide +kernel)
theorem k_168_29 : Ok M168 29 (oK (.int 252645135) 32) := r_ldcw (i := 267) (by decide +kernel) w_566
theorem k_168_32 : Ok M168 32 (oS (gI2 f_iand) 33) := r_iand (by decide +kernel)
theorem k_168_33 : Ok M168 33 (oSI 0 1 34) := r_istore_n (j := 0) (by decide +kernel) rfl
theorem k_168_34 : Ok M168 34 (oLI 0 35) := r_iload_n (j := 0) (by decide +kernel) rfl
theorem k_168_35 : Ok M168 35 (oLI 0 36) := r_iload_n (j := 0) (by decide +kernel) rfl
theorem k_168_36 : Ok M168 36 (oS (gKo (.int 8)) 38) := r_bipush (n := 8) (by decide +kernel) (by decide +kernel)
theorem k_168_38 : Ok M168 38 (oS (gI2 f_iushr) 39) := r_iushr (by decide +kernel)
theorem k_168_39 : Ok M168 39 (oS (gI2 f_iadd) 40) := r_iadd (by decide +kernel)
theorem k_168_40 : Ok M168 40 (oSI 0 1 41) := r_istore_n (j := 0) (by decide +kernel) rfl
theorem k_168_41 : Ok M168 41 (oLI 0 42) := r_iload_n (j := 0) (by decide +kernel) rfl
theorem k_168_42 : Ok M168 42 (oLI 0 43) := r_iload_n (j := 0) (by decide +kernel) rfl
theorem k_168_43 : Ok M168 43 (oS (gKo (.int 16)) 45) := r_bipush (n := 16) (by decide +kernel) (by decide +kernel)
theorem k_168_45 : Ok M168 45 (oS (gI2 f_iushr) 46) := r_iushr (by decide +kernel)
theorem k_168_46 : Ok M168 46 (oS (gI2 f_iadd) 47) := r_iadd (by decide +kernel)
theorem k_168_47 : Ok M168 47 (oSI 0 1 48) := r_istore_n (j := 0) (by decide +kernel) rfl
theorem k_168_48 : Ok M168 48 (oLI 0 49) := r_iload_n (j := 0) (by decide +kernel) rfl
theorem k_168_49 : Ok M168 49 (oS (gKo (.int 63)) 51) := r_bipush (n := 63) (by decide +kernel) (by decide +kernel)
theorem k_168_51 : Ok M168 51 (oS (gI2 f_iand) 52) := r_iand (by decide +kernel)
theorem k_168_52 : Ok M168 52 (oRI) := r_ireturn rfl (by decide +kernel)
def B168_0 : List (Nat × aO) := [(0, oLI 0 1), (1, oLI 0 2), (2, oS (gKo (.int 1)) 3), (3, oS (gI2 f_iushr) 4), (4, oK (.int 1431655765) 7), (7, oS (gI2 f_iand) 8), (8, oS (gI2 f_isub) 9), (9, oSI 0 1 10)]
theorem B168_0_ok : ∀ q ∈ B168_0, Ok M168 q.1 q.2 := List.forall_mem_cons.mpr ⟨k_168_0, List.forall_mem_cons.mpr ⟨k_168_1, List.forall_mem_cons.mpr ⟨k_168_2, List.forall_mem_cons.mpr ⟨k_168_3, List.forall_mem_cons.mpr ⟨k_168_4, List.forall_mem_cons.mpr ⟨k_168_7, List.forall_mem_cons.mpr ⟨k_168_8, List.forall_mem_cons.mpr ⟨k_168_9, fun _ h => absurd h List.not_mem_nil⟩⟩⟩⟩⟩⟩⟩⟩
def B168_1 : List (Nat × aO) := [(10, oLI 0 11), (11, oK (.int 858993459) 14), (14, oS (gI2 f_iand) 15), (15, oLI 0 16), (16, oS (gKo (.int 2)) 17), (17, oS (gI2 f_iushr) 18), (18, oK (.int 858993459) 21), (21, oS (gI2 f_iand) 22)]
theorem B168_1_ok : ∀ q ∈ B168_1, Ok M168 q.1 q.2 := List.forall_mem_cons.mpr ⟨k_168_10, List.forall_mem_cons.mpr ⟨k_168_11, List.forall_mem_cons.mpr ⟨k_168_14, List.forall_mem_cons.mpr ⟨k_168_15, List.forall_mem_cons.mpr ⟨k_168_16, List.forall_mem_cons.mpr ⟨k_168_17, List.forall_mem_cons.mpr ⟨k_168_18, List.forall_mem_cons.mpr ⟨k_168_21, fun _ h => absurd h List.not_mem_nil⟩⟩⟩⟩⟩⟩⟩⟩
def B168_2 : List (Nat × aO) := [(22, oS (gI2 f_iadd) 23), (23, oSI 0 1 24), (24, oLI 0 25), (25, oLI 0 26), (26, oS (gKo (.int 4)) 27), (27, oS (gI2 f_iushr) 28), (28, oS (gI2 f_iadd) 29), (29, oK (.int 252645135) 32)]
theorem B168_2_ok : ∀ q ∈ B168_2, Ok M168 q.1 q.2 := List.forall_mem_cons.mpr ⟨k_168_22, List.forall_mem_cons.mpr ⟨k_168_23, List.forall_mem_cons.mpr ⟨k_168_24, List.forall_mem_cons.mpr ⟨k_168_25, List.forall_mem_cons.mpr ⟨k_168_26, List.forall_mem_cons.mpr ⟨k_168_27, List.forall_mem_cons.mpr ⟨k_168_28, List.forall_mem_cons.mpr ⟨k_168_29, fun _ h => absurd h List.not_mem_nil⟩⟩⟩⟩⟩⟩⟩⟩
def B168_3 : List (Nat × aO) := [(32, oS (gI2 f_iand) 33), (33, oSI 0 1 34), (34, oLI 0 35), (35, oLI 0 36), (36, oS (gKo (.int 8)) 38), (38, oS (gI2 f_iushr) 39), (39, oS (gI2 f_iadd) 40), (40, oSI 0 1 41)]
theorem B168_3_ok : ∀ q ∈ B168_3, Ok M168 q.1 q.2 := List.forall_mem_cons.mpr ⟨k_168_32, List.forall_mem_cons.mpr ⟨k_168_33, List.forall_mem_cons.mpr ⟨k_168_34, List.forall_mem_cons.mpr ⟨k_168_35, List.forall_mem_cons.mpr ⟨k_168_36, List.forall_mem_cons.mpr ⟨k_168_38, List.forall_mem_cons.mpr ⟨k_168_39, List.forall_mem_cons.mpr ⟨k_168_40, fun _ h => absurd h List.not_mem_nil⟩⟩⟩⟩⟩⟩⟩⟩
def B168_4 : List (Nat × aO) := [(41, oLI 0 42), (42, oLI 0 43), (43, oS (gKo (.int 16)) 45), (45, oS (gI2 f_iushr) 46), (46, oS (gI2 f_iadd) 47), (47, oSI 0 1 48), (48, oLI 0 49), (49, oS (gKo (.int 63)) 51)]
theorem B168_4_ok : ∀ q ∈ B168_4, Ok M168 q.1 q.2 := List.forall_mem_cons.mpr ⟨k_168_41, List.forall_mem_cons.mpr ⟨k_168_42, List.forall_mem_cons.mpr ⟨k_168_43, List.forall_mem_cons.mpr ⟨k_168_45, List.forall_mem_cons.mpr ⟨k_168_46, List.forall_mem_cons.mpr ⟨k_168_47, List.forall_mem_cons.mpr ⟨k_168_48, List.forall_mem_cons.mpr ⟨k_168_49, fun _ h => absurd h List.not_mem_nil⟩⟩⟩⟩⟩⟩⟩⟩
def B168_5 : List (Nat × aO) := [(51, oS (gI2 f_iand) 52), (52, oRI)]
theorem B168_5_ok : ∀ q ∈ B168_5, Ok M168 q.1 q.2 := List.forall_mem_cons.mpr ⟨k_168_51, List.forall_mem_cons.mpr ⟨k_168_52, fun _ h => absurd h List.not_mem_nil⟩⟩
def P168 : List (Nat × List (Nat × aO)) := [(9, B168_0), (21, B168_1), (29, B168_2), (40, B168_3), (49, B168_4), (52, B168_5)]
theorem P168_ok : ∀ b ∈ P168, ∀ q ∈ b.2, Ok M168 q.1 q.2 := List.forall_mem_cons.mpr ⟨B168_0_ok, List.forall_mem_cons.mpr ⟨B168_1_ok, List.forall_mem_cons.mpr ⟨B168_2_ok, List.forall_mem_cons.mpr ⟨B168_3_ok, List.forall_mem_cons.mpr ⟨B168_4_ok, List.forall_mem_cons.mpr ⟨B168_5_ok, fun _ h => absurd h List.not_mem_nil⟩⟩⟩⟩⟩⟩
theorem k_169_0 : Ok M169 0 (oS (gKo (.int 0)) 1) := r_iconst (n := 0) (by decide +kernel) (by decide +kernel)
theorem k_169_1 : Ok M169 1 (oSI 2 4 2) := r_istore_n (j := 2) (by decide +kernel) rfl
theorem k_169_2 : Ok M169 2 (oLA 0 3) := r_aload_n (j := 0) (by decide +kernel) rfl
theorem k_169_3 : Ok M169 3 (oAn 4) := r_alen (by decide +kernel)
theorem k_169_4 : Ok M169 4 (oSI 3 4 5) := r_istore_n (j := 3) (by decide +kernel) rfl
theorem k_169_5 : Ok M169 5 (oLI 2 6) := r_iload_n (j := 2) (by decide +kernel) rfl
theorem k_169_6 : Ok M169 6 (oLI 3 7) := r_iload_n (j := 3) (by decide +kernel) rfl
theorem k_169_7 : Ok M169 7 (oB2 b_icmp_ge q_ge 20 10) := r_icmp_ge (off := 13) (by decide +kernel) (by decide +kernel)
theorem k_169_10 : Ok M169 10 (oLA 0 11) := r_aload_n (j := 0) (by decide +kernel) rfl
theorem k_169_11 : Ok M169 11 (oLI 2 12) := r_iload_n (j := 2) (by decide +kernel) rfl
theorem k_169_12 : Ok M169 12 (oLI 1 13) := r_iload_n (j := 1) (by decide +kernel) rfl
theorem k_169_13 : Ok M169 13 (oAT 14) := r_iastore (by decide +kernel)
theorem k_169_14 : Ok M169 14 (oInc 2 1 4 17) := r_iinc (n := 1) (by decide +kernel) (by decide +kernel)
theorem k_169_17 : Ok M169 17 (oGo 5) := r_goto (off := (-12)) (by decide +kernel) (by decide +kernel)
theorem k_169_20 : Ok M169 20 (oRV) := r_return rfl (by decide +kernel)
def B169_0 : List (Nat × aO) := [(0, oS (gKo (.int 0)) 1), (1, oSI 2 4 2), (2, oLA 0 3), (3, oAn 4), (4, oSI 3 4 5), (5, oLI 2 6), (6, oLI 3 7), (7, oB2 b_icmp_ge q_ge 20 10)]
theorem B169_0_ok : ∀ q ∈ B169_0, Ok M169 q.1 q.2 := List.forall_mem_cons.mpr ⟨k_169_0, List.forall_mem_cons.mpr ⟨k_169_1, List.forall_mem_cons.mpr ⟨k_169_2, List.forall_mem_cons.mpr ⟨k_169_3, List.forall_mem_cons.mpr ⟨k_169_4, List.forall_mem_cons.mpr ⟨k_169_5, List.forall_mem_cons.mpr ⟨k_169_6, List.forall_mem_cons.mpr ⟨k_169_7, fun _ h => absurd h List.not_mem_nil⟩⟩⟩⟩⟩⟩⟩⟩
def B169_1 : List (Nat × aO) := [(10, oLA 0 11), (11, oLI 2 12), (12, oLI 1 13), (13, oAT 14), (14, oInc 2 1 4 17), (17, oGo 5), (20, oRV)]
theorem B169_1_ok : ∀ q ∈ B169_1, Ok M169 q.1 q.2 := List.forall_mem_cons.mpr ⟨k_169_10, List.forall_mem_cons.mpr ⟨k_169_11, List.forall_mem_cons.mpr ⟨k_169_12, List.forall_mem_cons.mpr ⟨k_169_13, List.forall_mem_cons.mpr ⟨k_169_14, List.forall_mem_cons.mpr ⟨k_169_17, List.forall_mem_cons.mpr ⟨k_169_20, fun _ h => absurd h List.not_mem_nil⟩⟩⟩⟩⟩⟩⟩
def P169 : List (Nat × List (Nat × aO)) := [(7, B169_0), (20, B169_1)]
theorem P169_ok : ∀ b ∈ P169, ∀ q ∈ b.2, Ok M169 q.1 q.2 := List.forall_mem_cons.mpr ⟨B169_0_ok, List.forall_mem_cons.mpr ⟨B169_1_ok, fun _ h => absurd h List.not_mem_nil⟩⟩
