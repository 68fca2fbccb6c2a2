/-! the checker's programs of the methods, printed -/
def U41_0 : List (Nat × zT) := [(0, tLd 2 1 1), (1, tGe 0 0 4), (4, tLd 0 2 5), (5, tCS 168 1), (8, tSb 9), (9, tSt false 0 6 11), (11, tLd 2 1 12), (12, tLd 0 6 14)]
theorem V41_0 : Tkp B41_0 U41_0 := Tkc d_LA (Tkc d_Ge (Tkc d_LI (Tkc d_CS (Tkc d_Sb (Tkc (d_SI (i := 6) (nL := 15) (n := 11) rfl) (Tkc d_LA (Tkc d_LI (Tkn))))))))
def U41_1 : List (Nat × zT) := [(14, tCV 0 6 1), (17, tSt false 0 7 19), (19, tLd 0 7 21), (21, tK (-1) 22), (22, tB2 2 32 25), (25, tLd 0 5 27), (27, tK 10 29), (29, tB2 1 34 32)]
theorem V41_1 : Tkp B41_1 U41_1 := Tkc d_CV (Tkc (d_SI (i := 7) (nL := 15) (n := 19) rfl) (Tkc d_LI (Tkc (d_K rfl) (Tkc d_iceq (Tkc d_LI (Tkc (d_K rfl) (Tkc d_icle (Tkn))))))))
def U41_2 : List (Nat × zT) := [(32, tKL 0 33), (33, tRt 1), (34, tLd 0 4 36), (36, tLd 2 1 37), (37, tGe 0 9 40), (40, tLd 0 6 42), (42, tAI 43), (43, tI2 gxa 44)]
theorem V41_2 : Tkp B41_2 U41_2 := Tkc (d_KL rfl) (Tkc d_RL (Tkc d_LI (Tkc d_LA (Tkc d_Ge (Tkc d_LI (Tkc d_AI (Tkc d_and (Tkn))))))))
def U41_3 : List (Nat × zT) := [(44, tSt false 0 8 46), (46, tLd 2 0 47), (47, tLd 0 2 48), (48, tLd 0 3 49), (49, tLd 0 8 51), (51, tCV 1 40 3), (54, tSt false 0 9 56), (56, tLd 2 0 57)]
theorem V41_3 : Tkp B41_3 U41_3 := Tkc (d_SI (i := 8) (nL := 15) (n := 46) rfl) (Tkc d_LA (Tkc d_LI (Tkc d_LI (Tkc d_LI (Tkc d_CV (Tkc (d_SI (i := 9) (nL := 15) (n := 56) rfl) (Tkc d_LA (Tkn))))))))
def U41_4 : List (Nat × zT) := [(57, tGe 1 1 60), (60, tLd 0 9 62), (62, tAL 63), (63, tK 46 65), (65, tLS 66), (66, tLd 2 1 67), (67, tGe 0 7 70), (70, tIL 71)]
theorem V41_4 : Tkp B41_4 U41_4 := Tkc d_Ge (Tkc d_LI (Tkc d_AL (Tkc (d_K rfl) (Tkc d_LS (Tkc d_LA (Tkc d_Ge (Tkc d_IL (Tkn))))))))
def U41_5 : List (Nat × zT) := [(71, tCm 72), (72, tB1 3 87 75), (75, tLd 2 0 76), (76, tGe 1 1 79), (79, tLd 0 9 81), (81, tAL 82), (82, tKL 70368744177663 85), (85, tLa 86)]
theorem V41_5 : Tkp B41_5 U41_5 := Tkc d_Cm (Tkc d_ifne (Tkc d_LA (Tkc d_Ge (Tkc d_LI (Tkc d_AL (Tkc (d_KLc rfl) (Tkc d_La (Tkn))))))))
def U41_6 : List (Nat × zT) := [(86, tRt 1), (87, tKL 0 88), (88, tSt true 1 10 90), (90, tK 0 91), (91, tSt false 0 12 93), (93, tLd 0 12 95), (95, tLd 2 1 96), (96, tGe 0 0 99)]
theorem V41_6 : Tkp B41_6 U41_6 := Tkc d_RL (Tkc (d_KL rfl) (Tkc (d_SL (i := 10) (nL := 15) (n := 90) rfl) (Tkc (d_K rfl) (Tkc (d_SI (i := 12) (nL := 15) (n := 93) rfl) (Tkc d_LI (Tkc d_LA (Tkc d_Ge (Tkn))))))))
def U41_7 : List (Nat × zT) := [(99, tB2 5 165 102), (102, tLd 0 2 103), (103, tLd 0 3 104), (104, tK (-1) 105), (105, tI2 gxx 106), (106, tI2 gxa 107), (107, tLd 0 12 109), (109, tCS 94 2)]
theorem V41_7 : Tkp B41_7 U41_7 := Tkc d_icge (Tkc d_LI (Tkc d_LI (Tkc (d_K rfl) (Tkc d_xor (Tkc d_and (Tkc d_LI (Tkc d_CS (Tkn))))))))
def U41_8 : List (Nat × zT) := [(112, tK 1 113), (113, tB2 3 159 116), (116, tLd 2 0 117), (117, tLd 2 1 118), (118, tLd 0 12 120), (120, tLd 0 2 121), (121, tLd 0 3 122), (122, tLd 0 8 124)]
theorem V41_8 : Tkp B41_8 U41_8 := Tkc (d_K rfl) (Tkc d_icne (Tkc d_LA (Tkc d_LA (Tkc d_LI (Tkc d_LI (Tkc d_LI (Tkc d_LI (Tkn))))))))
def U41_9 : List (Nat × zT) := [(124, tLd 0 5 126), (126, tCV 1 42 6), (129, tSt true 1 13 131), (131, tLd 1 10 133), (133, tKL 0 134), (134, tCm 135), (135, tB1 2 155 138), (138, tLd 1 13 140)]
theorem V41_9 : Tkp B41_9 U41_9 := Tkc d_LI (Tkc d_CV (Tkc (d_SL (i := 13) (nL := 15) (n := 131) rfl) (Tkc d_LL (Tkc (d_KL rfl) (Tkc d_Cm (Tkc d_ifeq (Tkc d_LL (Tkn))))))))
def U41_10 : List (Nat × zT) := [(140, tLd 0 7 142), (142, tCS 37 2), (145, tLd 1 10 147), (147, tLd 0 7 149), (149, tCS 37 2), (152, tB2 1 159 155), (155, tLd 1 13 157), (157, tSt true 1 10 159)]
theorem V41_10 : Tkp B41_10 U41_10 := Tkc d_LI (Tkc d_CS (Tkc d_LL (Tkc d_LI (Tkc d_CS (Tkc d_icle (Tkc d_LL (Tkc (d_SL (i := 10) (nL := 15) (n := 159) rfl) (Tkn))))))))
def U41_11 : List (Nat × zT) := [(159, tIn 12 1 162), (162, tGo 93), (165, tLd 2 0 166), (166, tGe 1 1 169), (169, tLd 0 9 171), (171, tLd 2 1 172), (172, tGe 0 7 175), (175, tIL 176)]
theorem V41_11 : Tkp B41_11 U41_11 := Tkc (d_In (i := 12) (x := 1) (nL := 15) (n := 162) (c := 1) rfl rfl) (Tkc d_Go (Tkc d_LA (Tkc d_Ge (Tkc d_LI (Tkc d_LA (Tkc d_Ge (Tkc d_IL (Tkn))))))))
def U41_12 : List (Nat × zT) := [(176, tK 46 178), (178, tLS 179), (179, tLd 1 10 181), (181, tL2 182), (182, tAJ 183), (183, tLd 1 10 185), (185, tRt 1)]
theorem V41_12 : Tkp B41_12 U41_12 := Tkc (d_K rfl) (Tkc d_LS (Tkc d_LL (Tkc d_L2 (Tkc d_AJ (Tkc d_LL (Tkc d_RL (Tkn)))))))
def U41 : zP := [(12, U41_0), (29, U41_1), (43, U41_2), (56, U41_3), (70, U41_4), (85, U41_5), (96, U41_6), (109, U41_7), (122, U41_8), (138, U41_9), (157, U41_10), (175, U41_11), (185, U41_12)]
theorem V41 : Tkb P41 U41 := Tbc V41_0 (Tbc V41_1 (Tbc V41_2 (Tbc V41_3 (Tbc V41_4 (Tbc V41_5 (Tbc V41_6 (Tbc V41_7 (Tbc V41_8 (Tbc V41_9 (Tbc V41_10 (Tbc V41_11 (Tbc V41_12 (Tbn)))))))))))))
def U42_0 : List (Nat × zT) := [(0, tLd 2 1 1), (1, tLd 2 1 2), (2, tGe 0 0 5), (5, tLd 0 3 6), (6, tCS 168 1), (9, tSb 10), (10, tCV 0 6 1), (13, tSt false 0 7 15)]
theorem V42_0 : Tkp B42_0 U42_0 := Tkc d_LA (Tkc d_LA (Tkc d_Ge (Tkc d_LI (Tkc d_CS (Tkc d_Sb (Tkc d_CV (Tkc (d_SI (i := 7) (nL := 18) (n := 15) rfl) (Tkn))))))))
def U42_1 : List (Nat × zT) := [(15, tLd 0 7 17), (17, tK (-1) 18), (18, tB2 2 28 21), (21, tLd 0 6 23), (23, tK 10 25), (25, tB2 1 30 28), (28, tKL 0 29), (29, tRt 1)]
theorem V42_1 : Tkp B42_1 U42_1 := Tkc d_LI (Tkc (d_K rfl) (Tkc d_iceq (Tkc d_LI (Tkc (d_K rfl) (Tkc d_icle (Tkc (d_KL rfl) (Tkc d_RL (Tkn))))))))
def U42_2 : List (Nat × zT) := [(30, tK 1 31), (31, tLd 0 2 32), (32, tI2 gxl 33), (33, tSt false 0 8 35), (35, tKL 1099511627775 38), (38, tLd 2 0 39), (39, tLd 2 1 40), (40, tLd 0 3 41)]
theorem V42_2 : Tkp B42_2 U42_2 := Tkc (d_K rfl) (Tkc d_LI (Tkc d_shl (Tkc (d_SI (i := 8) (nL := 18) (n := 35) rfl) (Tkc (d_KLc rfl) (Tkc d_LA (Tkc d_LA (Tkc d_LI (Tkn))))))))
def U42_3 : List (Nat × zT) := [(41, tLd 0 8 43), (43, tK (-1) 44), (44, tI2 gxx 45), (45, tI2 gxa 46), (46, tK 0 47), (47, tLd 0 5 49), (49, tLd 0 6 51), (51, tK 1 52)]
theorem V42_3 : Tkp B42_3 U42_3 := Tkc d_LI (Tkc (d_K rfl) (Tkc d_xor (Tkc d_and (Tkc (d_K rfl) (Tkc d_LI (Tkc d_LI (Tkc (d_K rfl) (Tkn))))))))
def U42_4 : List (Nat × zT) := [(52, tAd 53), (53, tCV 1 41 5), (56, tLa 57), (57, tSt true 1 9 59), (59, tLd 1 9 61), (61, tLd 2 1 62), (62, tLd 0 7 64), (64, tLd 0 2 65)]
theorem V42_4 : Tkp B42_4 U42_4 := Tkc d_Ad (Tkc d_CV (Tkc d_La (Tkc (d_SL (i := 9) (nL := 18) (n := 59) rfl) (Tkc d_LL (Tkc d_LA (Tkc d_LI (Tkc d_LI (Tkn))))))))
def U42_5 : List (Nat × zT) := [(65, tCV 0 3 2), (68, tIL 69), (69, tK 10 71), (71, tLd 0 7 73), (73, tI2 gxm 74), (74, tLS 75), (75, tL2 76), (76, tSt true 1 9 78)]
theorem V42_5 : Tkp B42_5 U42_5 := Tkc d_CV (Tkc d_IL (Tkc (d_K rfl) (Tkc d_LI (Tkc d_mul (Tkc d_LS (Tkc d_L2 (Tkc (d_SL (i := 9) (nL := 18) (n := 78) rfl) (Tkn))))))))
def U42_6 : List (Nat × zT) := [(78, tKL 0 79), (79, tSt true 1 11 81), (81, tLd 0 3 82), (82, tLd 0 4 84), (84, tK (-1) 85), (85, tI2 gxx 86), (86, tI2 gxa 87), (87, tLd 0 8 89)]
theorem V42_6 : Tkp B42_6 U42_6 := Tkc (d_KL rfl) (Tkc (d_SL (i := 11) (nL := 18) (n := 81) rfl) (Tkc d_LI (Tkc d_LI (Tkc (d_K rfl) (Tkc d_xor (Tkc d_and (Tkc d_LI (Tkn))))))))
def U42_7 : List (Nat × zT) := [(89, tK (-1) 90), (90, tI2 gxx 91), (91, tI2 gxa 92), (92, tB1 3 99 95), (95, tK 1 96), (96, tGo 100), (99, tK 0 100), (100, tSt false 0 13 102)]
theorem V42_7 : Tkp B42_7 U42_7 := Tkc (d_K rfl) (Tkc d_xor (Tkc d_and (Tkc d_ifne (Tkc (d_K rfl) (Tkc d_Go (Tkc (d_K rfl) (Tkc (d_SI (i := 13) (nL := 18) (n := 102) rfl) (Tkn))))))))
def U42_8 : List (Nat × zT) := [(102, tLd 2 1 103), (103, tGe 0 2 106), (106, tK 1 107), (107, tSb 108), (108, tSt false 0 14 110), (110, tLd 0 14 112), (112, tB1 0 211 115), (115, tLd 0 13 117)]
theorem V42_8 : Tkp B42_8 U42_8 := Tkc d_LA (Tkc d_Ge (Tkc (d_K rfl) (Tkc d_Sb (Tkc (d_SI (i := 14) (nL := 18) (n := 110) rfl) (Tkc d_LI (Tkc d_iflt (Tkc d_LI (Tkn))))))))
def U42_9 : List (Nat × zT) := [(117, tB1 3 211 120), (120, tLd 2 1 121), (121, tGe 0 11 124), (124, tLd 0 14 126), (126, tAI 127), (127, tSt false 0 15 129), (129, tLd 0 15 131), (131, tLd 0 7 133)]
theorem V42_9 : Tkp B42_9 U42_9 := Tkc d_ifne (Tkc d_LA (Tkc d_Ge (Tkc d_LI (Tkc d_AI (Tkc (d_SI (i := 15) (nL := 18) (n := 129) rfl) (Tkc d_LI (Tkc d_LI (Tkn))))))))
def U42_10 : List (Nat × zT) := [(133, tB2 2 205 136), (136, tLd 0 5 138), (138, tLd 0 15 140), (140, tCS 94 2), (143, tK 1 144), (144, tB2 3 205 147), (147, tKL 1099511627775 150), (150, tLd 2 0 151)]
theorem V42_10 : Tkp B42_10 U42_10 := Tkc d_iceq (Tkc d_LI (Tkc d_LI (Tkc d_CS (Tkc (d_K rfl) (Tkc d_icne (Tkc (d_KLc rfl) (Tkc d_LA (Tkn))))))))
def U42_11 : List (Nat × zT) := [(151, tLd 2 1 152), (152, tLd 0 3 153), (153, tLd 0 4 155), (155, tLd 0 8 157), (157, tI2 gxo 158), (158, tLd 0 5 160), (160, tK 1 161), (161, tLd 0 15 163)]
theorem V42_11 : Tkp B42_11 U42_11 := Tkc d_LA (Tkc d_LI (Tkc d_LI (Tkc d_LI (Tkc d_or (Tkc d_LI (Tkc (d_K rfl) (Tkc d_LI (Tkn))))))))
def U42_12 : List (Nat × zT) := [(163, tI2 gxl 164), (164, tK (-1) 165), (165, tI2 gxx 166), (166, tI2 gxa 167), (167, tLd 0 6 169), (169, tK 1 170), (170, tAd 171), (171, tCV 1 41 5)]
theorem V42_12 : Tkp B42_12 U42_12 := Tkc d_shl (Tkc (d_K rfl) (Tkc d_xor (Tkc d_and (Tkc d_LI (Tkc (d_K rfl) (Tkc d_Ad (Tkc d_CV (Tkn))))))))
def U42_13 : List (Nat × zT) := [(174, tLa 175), (175, tSt true 1 16 177), (177, tLd 1 16 179), (179, tLd 0 15 181), (181, tCS 37 2), (184, tLd 1 9 186), (186, tLd 0 15 188), (188, tCS 37 2)]
theorem V42_13 : Tkp B42_13 U42_13 := Tkc d_La (Tkc (d_SL (i := 16) (nL := 18) (n := 177) rfl) (Tkc d_LL (Tkc d_LI (Tkc d_CS (Tkc d_LL (Tkc d_LI (Tkc d_CS (Tkn))))))))
def U42_14 : List (Nat × zT) := [(191, tB2 1 205 194), (194, tLd 1 16 196), (196, tSt true 1 9 198), (198, tLd 0 15 200), (200, tIL 201), (201, tKL 1 202), (202, tL2 203), (203, tSt true 1 11 205)]
theorem V42_14 : Tkp B42_14 U42_14 := Tkc d_icle (Tkc d_LL (Tkc (d_SL (i := 9) (nL := 18) (n := 198) rfl) (Tkc d_LI (Tkc d_IL (Tkc (d_KL rfl) (Tkc d_L2 (Tkc (d_SL (i := 11) (nL := 18) (n := 205) rfl) (Tkn))))))))
def U42_15 : List (Nat × zT) := [(205, tIn 14 (-1) 208), (208, tGo 110), (211, tLd 1 9 213), (213, tLd 1 11 215), (215, tK 40 217), (217, tLS 218), (218, tL2 219), (219, tLd 0 2 220)]
theorem V42_15 : Tkp B42_15 U42_15 := Tkc (d_In (i := 14) (x := (-1)) (nL := 18) (n := 208) (c := (-1)) rfl rfl) (Tkc d_Go (Tkc d_LL (Tkc d_LL (Tkc (d_K rfl) (Tkc d_LS (Tkc d_L2 (Tkc d_LI (Tkn))))))))
def U42_16 : List (Nat × zT) := [(220, tIL 221), (221, tKL 1 222), (222, tL2 223), (223, tK 43 225), (225, tLS 226), (226, tL2 227), (227, tRt 1)]
theorem V42_16 : Tkp B42_16 U42_16 := Tkc d_IL (Tkc (d_KL rfl) (Tkc d_L2 (Tkc (d_K rfl) (Tkc d_LS (Tkc d_L2 (Tkc d_RL (Tkn)))))))
def U42 : zP := [(13, U42_0), (29, U42_1), (40, U42_2), (51, U42_3), (64, U42_4), (76, U42_5), (87, U42_6), (100, U42_7), (115, U42_8), (131, U42_9), (150, U42_10), (161, U42_11), (171, U42_12), (188, U42_13), (203, U42_14), (219, U42_15), (227, U42_16)]
theorem V42 : Tkb P42 U42 := Tbc V42_0 (Tbc V42_1 (Tbc V42_2 (Tbc V42_3 (Tbc V42_4 (Tbc V42_5 (Tbc V42_6 (Tbc V42_7 (Tbc V42_8 (Tbc V42_9 (Tbc V42_10 (Tbc V42_11 (Tbc V42_12 (Tbc V42_13 (Tbc V42_14 (Tbc V42_15 (Tbc V42_16 (Tbn)))))))))))))))))
def U43_0 : List (Nat × zT) := [(0, tLd 2 1 1), (1, tCV 0 11 0), (4, tSt false 0 3 5), (5, tLd 2 1 6), (6, tGe 0 16 9), (9, tSt false 0 4 11), (11, tLd 2 1 12), (12, tGe 0 15 15)]
theorem V43_0 : Tkp B43_0 U43_0 := Tkc d_LA (Tkc d_CV (Tkc (d_SI (i := 3) (nL := 11) (n := 5) rfl) (Tkc d_LA (Tkc d_Ge (Tkc (d_SI (i := 4) (nL := 11) (n := 11) rfl) (Tkc d_LA (Tkc d_Ge (Tkn))))))))
def U43_1 : List (Nat × zT) := [(15, tSt false 0 5 17), (17, tK 0 18), (18, tSt false 0 6 20), (20, tLd 0 6 22), (22, tK 10 24), (24, tB2 4 126 27), (27, tLd 2 0 28), (28, tLd 2 1 29)]
theorem V43_1 : Tkp B43_1 U43_1 := Tkc (d_SI (i := 5) (nL := 11) (n := 17) rfl) (Tkc (d_K rfl) (Tkc (d_SI (i := 6) (nL := 11) (n := 20) rfl) (Tkc d_LI (Tkc (d_K rfl) (Tkc d_icgt (Tkc d_LA (Tkc d_LA (Tkn))))))))
def U43_2 : List (Nat × zT) := [(29, tLd 0 3 30), (30, tLd 0 4 32), (32, tLd 0 5 34), (34, tK 0 35), (35, tCV 1 41 5), (38, tSt true 1 7 40), (40, tLd 1 7 42), (42, tCS 39 1)]
theorem V43_2 : Tkp B43_2 U43_2 := Tkc d_LI (Tkc d_LI (Tkc d_LI (Tkc (d_K rfl) (Tkc d_CV (Tkc (d_SL (i := 7) (nL := 11) (n := 40) rfl) (Tkc d_LL (Tkc d_CS (Tkn))))))))
def U43_3 : List (Nat × zT) := [(45, tSt false 0 9 47), (47, tLd 1 7 49), (49, tCS 38 1), (52, tSt false 0 10 54), (54, tLd 0 9 56), (56, tK (-1) 57), (57, tB2 3 62 60), (60, tK (-1) 61)]
theorem V43_3 : Tkp B43_3 U43_3 := Tkc (d_SI (i := 9) (nL := 11) (n := 47) rfl) (Tkc d_LL (Tkc d_CS (Tkc (d_SI (i := 10) (nL := 11) (n := 54) rfl) (Tkc d_LI (Tkc (d_K rfl) (Tkc d_icne (Tkc (d_K rfl) (Tkn))))))))
def U43_4 : List (Nat × zT) := [(61, tRt 0), (62, tLd 0 6 64), (64, tLd 0 2 65), (65, tB2 3 79 68), (68, tK 10 70), (70, tLd 0 9 72), (72, tI2 gxm 73), (73, tLd 0 10 75)]
theorem V43_4 : Tkp B43_4 U43_4 := Tkc d_RI (Tkc d_LI (Tkc d_LI (Tkc d_icne (Tkc (d_K rfl) (Tkc d_LI (Tkc d_mul (Tkc d_LI (Tkn))))))))
def U43_5 : List (Nat × zT) := [(75, tAd 76), (76, tK 1 77), (77, tAd 78), (78, tRt 0), (79, tLd 0 10 81), (81, tK (-1) 82), (82, tB2 3 100 85), (85, tLd 0 3 86)]
theorem V43_5 : Tkp B43_5 U43_5 := Tkc d_Ad (Tkc (d_K rfl) (Tkc d_Ad (Tkc d_RI (Tkc d_LI (Tkc (d_K rfl) (Tkc d_icne (Tkc d_LI (Tkn))))))))
def U43_6 : List (Nat × zT) := [(86, tK 1 87), (87, tLd 0 9 89), (89, tI2 gxl 90), (90, tK (-1) 91), (91, tI2 gxx 92), (92, tI2 gxa 93), (93, tSt false 0 3 94), (94, tK 0 95)]
theorem V43_6 : Tkp B43_6 U43_6 := Tkc (d_K rfl) (Tkc d_LI (Tkc d_shl (Tkc (d_K rfl) (Tkc d_xor (Tkc d_and (Tkc (d_SI (i := 3) (nL := 11) (n := 94) rfl) (Tkc (d_K rfl) (Tkn))))))))
def U43_7 : List (Nat × zT) := [(95, tSt false 0 4 97), (97, tGo 120), (100, tLd 0 4 102), (102, tK 1 103), (103, tLd 0 9 105), (105, tI2 gxl 106), (106, tI2 gxo 107), (107, tSt false 0 4 109)]
theorem V43_7 : Tkp B43_7 U43_7 := Tkc (d_SI (i := 4) (nL := 11) (n := 97) rfl) (Tkc d_Go (Tkc d_LI (Tkc (d_K rfl) (Tkc d_LI (Tkc d_shl (Tkc d_or (Tkc (d_SI (i := 4) (nL := 11) (n := 109) rfl) (Tkn))))))))
def U43_8 : List (Nat × zT) := [(109, tLd 0 5 111), (111, tK 1 112), (112, tLd 0 10 114), (114, tI2 gxl 115), (115, tK (-1) 116), (116, tI2 gxx 117), (117, tI2 gxa 118), (118, tSt false 0 5 120)]
theorem V43_8 : Tkp B43_8 U43_8 := Tkc d_LI (Tkc (d_K rfl) (Tkc d_LI (Tkc d_shl (Tkc (d_K rfl) (Tkc d_xor (Tkc d_and (Tkc (d_SI (i := 5) (nL := 11) (n := 120) rfl) (Tkn))))))))
def U43_9 : List (Nat × zT) := [(120, tIn 6 1 123), (123, tGo 20), (126, tK (-1) 127), (127, tRt 0)]
theorem V43_9 : Tkp B43_9 U43_9 := Tkc (d_In (i := 6) (x := 1) (nL := 11) (n := 123) (c := 1) rfl rfl) (Tkc d_Go (Tkc (d_K rfl) (Tkc d_RI (Tkn))))
def U43 : zP := [(12, U43_0), (28, U43_1), (42, U43_2), (60, U43_3), (73, U43_4), (85, U43_5), (94, U43_6), (107, U43_7), (118, U43_8), (127, U43_9)]
theorem V43 : Tkb P43 U43 := Tbc V43_0 (Tbc V43_1 (Tbc V43_2 (Tbc V43_3 (Tbc V43_4 (Tbc V43_5 (Tbc V43_6 (Tbc V43_7 (Tbc V43_8 (Tbc V43_9 (Tbn))))))))))
def U45_0 : List (Nat × zT) := [(0, tLd 2 0 1), (1, tGe 2 0 4), (4, tLd 2 0 5), (5, tGe 2 1 8), (8, tAA 9), (9, tSt false 2 2 10), (10, tLd 2 2 11), (11, tNu 14 15)]
theorem V45_0 : Tkp B45_0 U45_0 := Tkc d_LA (Tkc d_Ge (Tkc d_LA (Tkc d_Ge (Tkc d_AA (Tkc (d_SA (i := 2) (nL := 3) (n := 10) rfl) (Tkc d_LA (Tkc d_Nu (Tkn))))))))
def U45_1 : List (Nat × zT) := [(14, tRV), (15, tLd 2 2 16), (16, tLd 2 1 17), (17, tCV 0 31 1), (20, tLd 2 0 21), (21, tLd 2 0 22), (22, tGe 2 1 25), (25, tK 1 26)]
theorem V45_1 : Tkp B45_1 U45_1 := Tkc d_RV (Tkc d_LA (Tkc d_LA (Tkc d_CV (Tkc d_LA (Tkc d_LA (Tkc d_Ge (Tkc (d_K rfl) (Tkn))))))))
def U45_2 : List (Nat × zT) := [(26, tAd 27), (27, tK 6 29), (29, tRm 30), (30, tPI 2 1 33), (33, tLd 2 0 34), (34, tK 6 36), (36, tLd 2 0 37), (37, tGe 2 2 40)]
theorem V45_2 : Tkp B45_2 U45_2 := Tkc d_Ad (Tkc (d_K rfl) (Tkc d_Rm (Tkc d_PI (Tkc d_LA (Tkc (d_K rfl) (Tkc d_LA (Tkc d_Ge (Tkn))))))))
def U45_3 : List (Nat × zT) := [(40, tK 1 41), (41, tAd 42), (42, tMM imin 45), (45, tPI 2 2 48), (48, tRV)]
theorem V45_3 : Tkp B45_3 U45_3 := Tkc (d_K rfl) (Tkc d_Ad (Tkc d_Mn (Tkc d_PI (Tkc d_RV (Tkn)))))
def U45 : zP := [(11, U45_0), (25, U45_1), (37, U45_2), (48, U45_3)]
theorem V45 : Tkb P45 U45 := Tbc V45_0 (Tbc V45_1 (Tbc V45_2 (Tbc V45_3 (Tbn))))
def U46_0 : List (Nat × zT) := [(0, tLd 2 0 1), (1, tGe 2 2 4), (4, tB1 3 8 7), (7, tRV), (8, tLd 2 0 9), (9, tLd 2 0 10), (10, tGe 2 1 13), (13, tK 6 15)]
theorem V46_0 : Tkp B46_0 U46_0 := Tkc d_LA (Tkc d_Ge (Tkc d_ifne (Tkc d_RV (Tkc d_LA (Tkc d_LA (Tkc d_Ge (Tkc (d_K rfl) (Tkn))))))))
def U46_1 : List (Nat × zT) := [(15, tAd 16), (16, tK 1 17), (17, tSb 18), (18, tK 6 20), (20, tRm 21), (21, tPI 2 1 24), (24, tLd 2 0 25), (25, tDu 26)]
theorem V46_1 : Tkp B46_1 U46_1 := Tkc d_Ad (Tkc (d_K rfl) (Tkc d_Sb (Tkc (d_K rfl) (Tkc d_Rm (Tkc d_PI (Tkc d_LA (Tkc d_Du (Tkn))))))))
def U46_2 : List (Nat × zT) := [(26, tGe 2 2 29), (29, tK 1 30), (30, tSb 31), (31, tPI 2 2 34), (34, tLd 2 0 35), (35, tGe 2 0 38), (38, tLd 2 0 39), (39, tGe 2 1 42)]
theorem V46_2 : Tkp B46_2 U46_2 := Tkc d_Ge (Tkc (d_K rfl) (Tkc d_Sb (Tkc d_PI (Tkc d_LA (Tkc d_Ge (Tkc d_LA (Tkc d_Ge (Tkn))))))))
def U46_3 : List (Nat × zT) := [(42, tAA 43), (43, tSt false 2 2 44), (44, tLd 2 2 45), (45, tNu 53 48), (48, tLd 2 1 49), (49, tLd 2 2 50), (50, tCV 0 31 1), (53, tRV)]
theorem V46_3 : Tkp B46_3 U46_3 := Tkc d_AA (Tkc (d_SA (i := 2) (nL := 3) (n := 44) rfl) (Tkc d_LA (Tkc d_Nu (Tkc d_LA (Tkc d_LA (Tkc d_CV (Tkc d_RV (Tkn))))))))
def U46 : zP := [(13, U46_0), (25, U46_1), (39, U46_2), (53, U46_3)]
theorem V46 : Tkb P46 U46 := Tbc V46_0 (Tbc V46_1 (Tbc V46_2 (Tbc V46_3 (Tbn))))
def U48_0 : List (Nat × zT) := [(0, tLd 2 0 1), (1, tGe 3 1 4), (4, tK 160 7), (7, tB2 5 30 10), (10, tLd 2 0 11), (11, tGe 3 0 14), (14, tLd 2 0 15), (15, tGe 3 1 18)]
theorem V48_0 : Tkp B48_0 U48_0 := Tkc d_LA (Tkc d_Ge (Tkc (d_K rfl) (Tkc d_icge (Tkc d_LA (Tkc d_Ge (Tkc d_LA (Tkc d_Ge (Tkn))))))))
def U48_1 : List (Nat × zT) := [(18, tLd 0 1 19), (19, tAT 20), (20, tLd 2 0 21), (21, tDu 22), (22, tGe 3 1 25), (25, tK 1 26), (26, tAd 27), (27, tPI 3 1 30)]
theorem V48_1 : Tkp B48_1 U48_1 := Tkc d_LI (Tkc d_AT (Tkc d_LA (Tkc d_Du (Tkc d_Ge (Tkc (d_K rfl) (Tkc d_Ad (Tkc d_PI (Tkn))))))))
def U48_2 : List (Nat × zT) := [(30, tLd 2 0 31), (31, tGe 3 1 34), (34, tRt 0)]
theorem V48_2 : Tkp B48_2 U48_2 := Tkc d_LA (Tkc d_Ge (Tkc d_RI (Tkn)))
def U48 : zP := [(15, U48_0), (27, U48_1), (34, U48_2)]
theorem V48 : Tkb P48 U48 := Tbc V48_0 (Tbc V48_1 (Tbc V48_2 (Tbn)))
def U49_0 : List (Nat × zT) := [(0, tLd 2 0 1), (1, tGe 3 1 4), (4, tSt false 0 1 5), (5, tLd 2 0 6), (6, tK 0 7), (7, tPI 3 1 10), (10, tLd 0 1 11), (11, tRt 0)]
theorem V49_0 : Tkp B49_0 U49_0 := Tkc d_LA (Tkc d_Ge (Tkc (d_SI (i := 1) (nL := 2) (n := 5) rfl) (Tkc d_LA (Tkc (d_K rfl) (Tkc d_PI (Tkc d_LI (Tkc d_RI (Tkn))))))))
def U49 : zP := [(11, U49_0)]
theorem V49 : Tkb P49 U49 := Tbc V49_0 (Tbn)
def U50_0 : List (Nat × zT) := [(0, tLd 2 0 1), (1, tK 0 2), (2, tPI 3 3 5), (5, tLd 2 0 6), (6, tK 0 7), (7, tPI 3 4 10), (10, tLd 2 0 11), (11, tGe 3 3 14)]
theorem V50_0 : Tkp B50_0 U50_0 := Tkc d_LA (Tkc (d_K rfl) (Tkc d_PI (Tkc d_LA (Tkc (d_K rfl) (Tkc d_PI (Tkc d_LA (Tkc d_Ge (Tkn))))))))
def U50_1 : List (Nat × zT) := [(14, tLd 2 0 15), (15, tGe 3 1 18), (18, tB2 5 58 21), (21, tLd 2 0 22), (22, tGe 3 4 25), (25, tK 160 28), (28, tB2 5 58 31), (31, tLd 2 0 32)]
theorem V50_1 : Tkp B50_1 U50_1 := Tkc d_LA (Tkc d_Ge (Tkc d_icge (Tkc d_LA (Tkc d_Ge (Tkc (d_K rfl) (Tkc d_icge (Tkc d_LA (Tkn))))))))
def U50_2 : List (Nat × zT) := [(32, tLd 2 1 33), (33, tCV 3 55 1), (36, tB1 3 45 39), (39, tLd 2 0 40), (40, tCV 3 51 0), (43, tK 0 44), (44, tRZ), (45, tLd 2 0 46)]
theorem V50_2 : Tkp B50_2 U50_2 := Tkc d_LA (Tkc d_CV (Tkc d_ifne (Tkc d_LA (Tkc d_CV (Tkc (d_K rfl) (Tkc d_RZ (Tkc d_LA (Tkn))))))))
def U50_3 : List (Nat × zT) := [(46, tDu 47), (47, tGe 3 4 50), (50, tK 1 51), (51, tAd 52), (52, tPI 3 4 55), (55, tGo 10), (58, tK 1 59), (59, tRZ)]
theorem V50_3 : Tkp B50_3 U50_3 := Tkc d_Du (Tkc d_Ge (Tkc (d_K rfl) (Tkc d_Ad (Tkc d_PI (Tkc d_Go (Tkc (d_K rfl) (Tkc d_RZ (Tkn))))))))
def U50 : zP := [(11, U50_0), (31, U50_1), (45, U50_2), (59, U50_3)]
theorem V50 : Tkb P50 U50 := Tbc V50_0 (Tbc V50_1 (Tbc V50_2 (Tbc V50_3 (Tbn))))
def U51_0 : List (Nat × zT) := [(0, tLd 2 0 1), (1, tGe 3 2 4), (4, tK 0 5), (5, tLd 2 0 6), (6, tGe 3 4 9), (9, tAT 10), (10, tLd 2 0 11), (11, tGe 3 2 14)]
theorem V51_0 : Tkp B51_0 U51_0 := Tkc d_LA (Tkc d_Ge (Tkc (d_K rfl) (Tkc d_LA (Tkc d_Ge (Tkc d_AT (Tkc d_LA (Tkc d_Ge (Tkn))))))))
def U51_1 : List (Nat × zT) := [(14, tK 1 15), (15, tLd 2 0 16), (16, tGe 3 5 19), (19, tAT 20), (20, tLd 2 0 21), (21, tGe 3 2 24), (24, tK 2 25), (25, tLd 2 0 26)]
theorem V51_1 : Tkp B51_1 U51_1 := Tkc (d_K rfl) (Tkc d_LA (Tkc d_Ge (Tkc d_AT (Tkc d_LA (Tkc d_Ge (Tkc (d_K rfl) (Tkc d_LA (Tkn))))))))
def U51_2 : List (Nat × zT) := [(26, tGe 3 6 29), (29, tAT 30), (30, tLd 2 0 31), (31, tGe 3 2 34), (34, tK 3 35), (35, tLd 2 0 36), (36, tCV 3 52 0), (39, tAT 40)]
theorem V51_2 : Tkp B51_2 U51_2 := Tkc d_Ge (Tkc d_AT (Tkc d_LA (Tkc d_Ge (Tkc (d_K rfl) (Tkc d_LA (Tkc d_CV (Tkc d_AT (Tkn))))))))
def U51_3 : List (Nat × zT) := [(40, tRV)]
theorem V51_3 : Tkp B51_3 U51_3 := Tkc d_RV (Tkn)
def U51 : zP := [(11, U51_0), (25, U51_1), (39, U51_2), (40, U51_3)]
theorem V51 : Tkb P51 U51 := Tbc V51_0 (Tbc V51_1 (Tbc V51_2 (Tbc V51_3 (Tbn))))
def U52_0 : List (Nat × zT) := [(0, tLd 2 0 1), (1, tGe 3 3 4), (4, tB1 0 30 7), (7, tLd 2 0 8), (8, tGe 3 3 11), (11, tLd 2 0 12), (12, tGe 3 1 15), (15, tB2 5 30 18)]
theorem V52_0 : Tkp B52_0 U52_0 := Tkc d_LA (Tkc d_Ge (Tkc d_iflt (Tkc d_LA (Tkc d_Ge (Tkc d_LA (Tkc d_Ge (Tkc d_icge (Tkn))))))))
def U52_1 : List (Nat × zT) := [(18, tLd 2 0 19), (19, tGe 3 0 22), (22, tLd 2 0 23), (23, tGe 3 3 26), (26, tAI 27), (27, tGo 31), (30, tK (-1) 31), (31, tRt 0)]
theorem V52_1 : Tkp B52_1 U52_1 := Tkc d_LA (Tkc d_Ge (Tkc d_LA (Tkc d_Ge (Tkc d_AI (Tkc d_Go (Tkc (d_K rfl) (Tkc d_RI (Tkn))))))))
def U52 : zP := [(15, U52_0), (31, U52_1)]
theorem V52 : Tkb P52 U52 := Tbc V52_0 (Tbc V52_1 (Tbn))
def U53_0 : List (Nat × zT) := [(0, tLd 2 0 1), (1, tLd 0 1 2), (2, tPI 3 5 5), (5, tLd 2 0 6), (6, tLd 0 2 7), (7, tPI 3 6 10), (10, tRV)]
theorem V53_0 : Tkp B53_0 U53_0 := Tkc d_LA (Tkc d_LI (Tkc d_PI (Tkc d_LA (Tkc d_LI (Tkc d_PI (Tkc d_RV (Tkn)))))))
def U53 : zP := [(10, U53_0)]
theorem V53 : Tkb P53 U53 := Tbc V53_0 (Tbn)
def U54_0 : List (Nat × zT) := [(0, tLd 2 0 1), (1, tCV 3 52 0), (4, tLd 0 1 5), (5, tB2 2 10 8), (8, tK 0 9), (9, tRZ), (10, tLd 2 0 11), (11, tDu 12)]
theorem V54_0 : Tkp B54_0 U54_0 := Tkc d_LA (Tkc d_CV (Tkc d_LI (Tkc d_iceq (Tkc (d_K rfl) (Tkc d_RZ (Tkc d_LA (Tkc d_Du (Tkn))))))))
def U54_1 : List (Nat × zT) := [(12, tGe 3 3 15), (15, tK 1 16), (16, tAd 17), (17, tPI 3 3 20), (20, tK 1 21), (21, tRZ)]
theorem V54_1 : Tkp B54_1 U54_1 := Tkc d_Ge (Tkc (d_K rfl) (Tkc d_Ad (Tkc d_PI (Tkc (d_K rfl) (Tkc d_RZ (Tkn))))))
def U54 : zP := [(11, U54_0), (21, U54_1)]
theorem V54 : Tkb P54 U54 := Tbc V54_0 (Tbc V54_1 (Tbn))
def U55_0 : List (Nat × zT) := [(0, tLd 2 0 1), (1, tK 0 2), (2, tK 0 3), (3, tCV 3 53 2), (6, tLd 2 0 7), (7, tCV 3 52 0), (10, tLu 10 [(37, 64), (43, 70), (61, 34)] 92), (44, tLd 2 1 45)]
theorem V55_0 : Tkp B55_0 U55_0 := Tkc d_LA (Tkc (d_K rfl) (Tkc (d_K rfl) (Tkc d_CV (Tkc d_LA (Tkc d_CV (Tkc d_Lu (Tkc d_LA (Tkn))))))))
def U55_1 : List (Nat × zT) := [(45, tGe 0 2 48), (48, tB1 3 72 51), (51, tLd 2 1 52), (52, tGe 0 0 55), (55, tK 6 57), (57, tB2 5 72 60), (60, tLd 2 0 61), (61, tLd 2 1 62)]
theorem V55_1 : Tkp B55_1 U55_1 := Tkc d_Ge (Tkc d_ifne (Tkc d_LA (Tkc d_Ge (Tkc (d_K rfl) (Tkc d_icge (Tkc d_LA (Tkc d_LA (Tkn))))))))
def U55_2 : List (Nat × zT) := [(62, tCV 3 56 1), (65, tB1 2 72 68), (68, tK 1 69), (69, tGo 73), (72, tK 0 73), (73, tRZ), (74, tLd 2 0 75), (75, tLd 2 1 76)]
theorem V55_2 : Tkp B55_2 U55_2 := Tkc d_CV (Tkc d_ifeq (Tkc (d_K rfl) (Tkc d_Go (Tkc (d_K rfl) (Tkc d_RZ (Tkc d_LA (Tkc d_LA (Tkn))))))))
def U55_3 : List (Nat × zT) := [(76, tCV 3 57 1), (79, tRZ), (80, tLd 2 1 81), (81, tGe 0 2 84), (84, tK 4 85), (85, tB2 5 100 88), (88, tLd 2 0 89), (89, tLd 2 1 90)]
theorem V55_3 : Tkp B55_3 U55_3 := Tkc d_CV (Tkc d_RZ (Tkc d_LA (Tkc d_Ge (Tkc (d_K rfl) (Tkc d_icge (Tkc d_LA (Tkc d_LA (Tkn))))))))
def U55_4 : List (Nat × zT) := [(90, tCV 3 58 1), (93, tB1 2 100 96), (96, tK 1 97), (97, tGo 101), (100, tK 0 101), (101, tRZ), (102, tK 0 103), (103, tRZ)]
theorem V55_4 : Tkp B55_4 U55_4 := Tkc d_CV (Tkc d_ifeq (Tkc (d_K rfl) (Tkc d_Go (Tkc (d_K rfl) (Tkc d_RZ (Tkc (d_K rfl) (Tkc d_RZ (Tkn))))))))
def U55 : zP := [(44, U55_0), (61, U55_1), (75, U55_2), (89, U55_3), (103, U55_4)]
theorem V55 : Tkb P55 U55 := Tbc V55_0 (Tbc V55_1 (Tbc V55_2 (Tbc V55_3 (Tbc V55_4 (Tbn)))))
def U56_0 : List (Nat × zT) := [(0, tLd 2 0 1), (1, tDu 2), (2, tGe 3 3 5), (5, tK 1 6), (6, tAd 7), (7, tPI 3 3 10), (10, tLd 2 1 11), (11, tCV 0 10 0)]
theorem V56_0 : Tkp B56_0 U56_0 := Tkc d_LA (Tkc d_Du (Tkc d_Ge (Tkc (d_K rfl) (Tkc d_Ad (Tkc d_PI (Tkc d_LA (Tkc d_CV (Tkn))))))))
def U56_1 : List (Nat × zT) := [(14, tSt false 0 2 15), (15, tK 0 16), (16, tSt false 0 3 17), (17, tK 0 18), (18, tSt false 0 4 20), (20, tLd 0 4 22), (22, tK 12 24), (24, tB2 4 124 27)]
theorem V56_1 : Tkp B56_1 U56_1 := Tkc (d_SI (i := 2) (nL := 6) (n := 15) rfl) (Tkc (d_K rfl) (Tkc (d_SI (i := 3) (nL := 6) (n := 17) rfl) (Tkc (d_K rfl) (Tkc (d_SI (i := 4) (nL := 6) (n := 20) rfl) (Tkc d_LI (Tkc (d_K rfl) (Tkc d_icgt (Tkn))))))))
def U56_2 : List (Nat × zT) := [(27, tLd 2 0 28), (28, tCV 3 52 0), (31, tK 97 33), (33, tB2 0 49 36), (36, tLd 2 0 37), (37, tCV 3 52 0), (40, tK 109 42), (42, tB2 5 49 45)]
theorem V56_2 : Tkp B56_2 U56_2 := Tkc d_LA (Tkc d_CV (Tkc (d_K rfl) (Tkc d_iclt (Tkc d_LA (Tkc d_CV (Tkc (d_K rfl) (Tkc d_icge (Tkn))))))))
def U56_3 : List (Nat × zT) := [(45, tK 1 46), (46, tGo 50), (49, tK 0 50), (50, tSt false 0 5 52), (52, tLd 0 4 54), (54, tB1 1 65 57), (57, tLd 0 5 59), (59, tB1 3 65 62)]
theorem V56_3 : Tkp B56_3 U56_3 := Tkc (d_K rfl) (Tkc d_Go (Tkc (d_K rfl) (Tkc (d_SI (i := 5) (nL := 6) (n := 52) rfl) (Tkc d_LI (Tkc d_ifle (Tkc d_LI (Tkc d_ifne (Tkn))))))))
def U56_4 : List (Nat × zT) := [(62, tGo 124), (65, tLd 2 0 66), (66, tK 1 67), (67, tLd 0 4 69), (69, tCV 3 53 2), (72, tLd 0 5 74), (74, tB1 2 94 77), (77, tLd 0 2 78)]
theorem V56_4 : Tkp B56_4 U56_4 := Tkc d_Go (Tkc d_LA (Tkc (d_K rfl) (Tkc d_LI (Tkc d_CV (Tkc d_LI (Tkc d_ifeq (Tkc d_LI (Tkn))))))))
def U56_5 : List (Nat × zT) := [(78, tLd 0 3 79), (79, tI2 gxo 80), (80, tLd 2 0 81), (81, tCV 3 52 0), (84, tK 97 86), (86, tSb 87), (87, tCS 94 2), (90, tK 1 91)]
theorem V56_5 : Tkp B56_5 U56_5 := Tkc d_LI (Tkc d_or (Tkc d_LA (Tkc d_CV (Tkc (d_K rfl) (Tkc d_Sb (Tkc d_CS (Tkc (d_K rfl) (Tkn))))))))
def U56_6 : List (Nat × zT) := [(91, tB2 3 96 94), (94, tK 0 95), (95, tRZ), (96, tLd 0 3 97), (97, tK 1 98), (98, tLd 2 0 99), (99, tCV 3 52 0), (102, tK 97 104)]
theorem V56_6 : Tkp B56_6 U56_6 := Tkc d_icne (Tkc (d_K rfl) (Tkc d_RZ (Tkc d_LI (Tkc (d_K rfl) (Tkc d_LA (Tkc d_CV (Tkc (d_K rfl) (Tkn))))))))
def U56_7 : List (Nat × zT) := [(104, tSb 105), (105, tI2 gxl 106), (106, tI2 gxo 107), (107, tSt false 0 3 108), (108, tLd 2 0 109), (109, tDu 110), (110, tGe 3 3 113), (113, tK 1 114)]
theorem V56_7 : Tkp B56_7 U56_7 := Tkc d_Sb (Tkc d_shl (Tkc d_or (Tkc (d_SI (i := 3) (nL := 6) (n := 108) rfl) (Tkc d_LA (Tkc d_Du (Tkc d_Ge (Tkc (d_K rfl) (Tkn))))))))
def U56_8 : List (Nat × zT) := [(114, tAd 115), (115, tPI 3 3 118), (118, tIn 4 1 121), (121, tGo 20), (124, tLd 2 1 125), (125, tLd 0 3 126), (126, tCV 0 13 1), (129, tLd 2 0 130)]
theorem V56_8 : Tkp B56_8 U56_8 := Tkc d_Ad (Tkc d_PI (Tkc (d_In (i := 4) (x := 1) (nL := 6) (n := 121) (c := 1) rfl rfl) (Tkc d_Go (Tkc d_LA (Tkc d_LI (Tkc d_CV (Tkc d_LA (Tkn))))))))
def U56_9 : List (Nat × zT) := [(130, tCV 3 60 0), (133, tRZ)]
theorem V56_9 : Tkp B56_9 U56_9 := Tkc d_CV (Tkc d_RZ (Tkn))
def U56 : zP := [(11, U56_0), (24, U56_1), (42, U56_2), (59, U56_3), (77, U56_4), (90, U56_5), (102, U56_6), (113, U56_7), (129, U56_8), (133, U56_9)]
theorem V56 : Tkb P56 U56 := Tbc V56_0 (Tbc V56_1 (Tbc V56_2 (Tbc V56_3 (Tbc V56_4 (Tbc V56_5 (Tbc V56_6 (Tbc V56_7 (Tbc V56_8 (Tbc V56_9 (Tbn))))))))))
def U57_0 : List (Nat × zT) := [(0, tLd 2 0 1), (1, tDu 2), (2, tGe 3 3 5), (5, tK 1 6), (6, tAd 7), (7, tPI 3 3 10), (10, tLd 2 0 11), (11, tK 2 12)]
theorem V57_0 : Tkp B57_0 U57_0 := Tkc d_LA (Tkc d_Du (Tkc d_Ge (Tkc (d_K rfl) (Tkc d_Ad (Tkc d_PI (Tkc d_LA (Tkc (d_K rfl) (Tkn))))))))
def U57_1 : List (Nat × zT) := [(12, tK 0 13), (13, tCV 3 53 2), (16, tLd 2 0 17), (17, tK 3 18), (18, tK 4 19), (19, tCV 3 61 2), (22, tSt false 0 2 23), (23, tLd 0 2 24)]
theorem V57_1 : Tkp B57_1 U57_1 := Tkc (d_K rfl) (Tkc d_CV (Tkc d_LA (Tkc (d_K rfl) (Tkc (d_K rfl) (Tkc d_CV (Tkc (d_SI (i := 2) (nL := 3) (n := 23) rfl) (Tkc d_LI (Tkn))))))))
def U57_2 : List (Nat × zT) := [(24, tK (-1) 25), (25, tB2 3 30 28), (28, tK 0 29), (29, tRZ), (30, tLd 2 1 31), (31, tLd 0 2 32), (32, tPI 0 6 35), (35, tLd 2 0 36)]
theorem V57_2 : Tkp B57_2 U57_2 := Tkc (d_K rfl) (Tkc d_icne (Tkc (d_K rfl) (Tkc d_RZ (Tkc d_LA (Tkc d_LI (Tkc d_PI (Tkc d_LA (Tkn))))))))
def U57_3 : List (Nat × zT) := [(36, tCV 3 60 0), (39, tRZ)]
theorem V57_3 : Tkp B57_3 U57_3 := Tkc d_CV (Tkc d_RZ (Tkn))
def U57 : zP := [(11, U57_0), (23, U57_1), (35, U57_2), (39, U57_3)]
theorem V57 : Tkb P57 U57 := Tbc V57_0 (Tbc V57_1 (Tbc V57_2 (Tbc V57_3 (Tbn))))
def U58_0 : List (Nat × zT) := [(0, tLd 2 0 1), (1, tDu 2), (2, tGe 3 3 5), (5, tK 1 6), (6, tAd 7), (7, tPI 3 3 10), (10, tLd 2 0 11), (11, tK 3 12)]
theorem V58_0 : Tkp B58_0 U58_0 := Tkc d_LA (Tkc d_Du (Tkc d_Ge (Tkc (d_K rfl) (Tkc d_Ad (Tkc d_PI (Tkc d_LA (Tkc (d_K rfl) (Tkn))))))))
def U58_1 : List (Nat × zT) := [(12, tK 0 13), (13, tCV 3 53 2), (16, tLd 2 0 17), (17, tCV 3 52 0), (20, tK 48 22), (22, tB2 3 27 25), (25, tK 0 26), (26, tRZ)]
theorem V58_1 : Tkp B58_1 U58_1 := Tkc (d_K rfl) (Tkc d_CV (Tkc d_LA (Tkc d_CV (Tkc (d_K rfl) (Tkc d_icne (Tkc (d_K rfl) (Tkc d_RZ (Tkn))))))))
def U58_2 : List (Nat × zT) := [(27, tLd 2 0 28), (28, tK 3 29), (29, tK 999 32), (32, tCV 3 61 2), (35, tSt false 0 2 36), (36, tLd 0 2 37), (37, tK (-1) 38), (38, tB2 2 50 41)]
theorem V58_2 : Tkp B58_2 U58_2 := Tkc d_LA (Tkc (d_K rfl) (Tkc (d_K rfl) (Tkc d_CV (Tkc (d_SI (i := 2) (nL := 4) (n := 36) rfl) (Tkc d_LI (Tkc (d_K rfl) (Tkc d_iceq (Tkn))))))))
def U58_3 : List (Nat × zT) := [(41, tLd 2 0 42), (42, tK 58 44), (44, tCV 3 54 1), (47, tB1 3 52 50), (50, tK 0 51), (51, tRZ), (52, tLd 2 1 53), (53, tGe 0 3 56)]
theorem V58_3 : Tkp B58_3 U58_3 := Tkc d_LA (Tkc (d_K rfl) (Tkc d_CV (Tkc d_ifne (Tkc (d_K rfl) (Tkc d_RZ (Tkc d_LA (Tkc d_Ge (Tkn))))))))
def U58_4 : List (Nat × zT) := [(56, tLd 2 1 57), (57, tGe 0 2 60), (60, tLd 0 2 61), (61, tAT 62), (62, tK 0 63), (63, tSt false 0 3 64), (64, tLd 0 3 65), (65, tLd 2 1 66)]
theorem V58_4 : Tkp B58_4 U58_4 := Tkc d_LA (Tkc d_Ge (Tkc d_LI (Tkc d_AT (Tkc (d_K rfl) (Tkc (d_SI (i := 3) (nL := 4) (n := 64) rfl) (Tkc d_LI (Tkc d_LA (Tkn))))))))
def U58_5 : List (Nat × zT) := [(66, tGe 0 0 69), (69, tB2 5 89 72), (72, tLd 2 0 73), (73, tLd 2 1 74), (74, tLd 0 3 75), (75, tCV 3 59 2), (78, tB1 3 83 81), (81, tK 0 82)]
theorem V58_5 : Tkp B58_5 U58_5 := Tkc d_Ge (Tkc d_icge (Tkc d_LA (Tkc d_LA (Tkc d_LI (Tkc d_CV (Tkc d_ifne (Tkc (d_K rfl) (Tkn))))))))
def U58_6 : List (Nat × zT) := [(82, tRZ), (83, tIn 3 1 86), (86, tGo 64), (89, tLd 2 0 90), (90, tK 5 91), (91, tK 0 92), (92, tCV 3 53 2), (95, tLd 2 1 96)]
theorem V58_6 : Tkp B58_6 U58_6 := Tkc d_RZ (Tkc (d_In (i := 3) (x := 1) (nL := 4) (n := 86) (c := 1) rfl rfl) (Tkc d_Go (Tkc d_LA (Tkc (d_K rfl) (Tkc (d_K rfl) (Tkc d_CV (Tkc d_LA (Tkn))))))))
def U58_7 : List (Nat × zT) := [(96, tLd 2 0 97), (97, tK 33 99), (99, tCV 3 54 1), (102, tCV 0 14 1), (105, tLd 2 0 106), (106, tCV 3 60 0), (109, tRZ)]
theorem V58_7 : Tkp B58_7 U58_7 := Tkc d_LA (Tkc (d_K rfl) (Tkc d_CV (Tkc d_CV (Tkc d_LA (Tkc d_CV (Tkc d_RZ (Tkn)))))))
def U58 : zP := [(11, U58_0), (26, U58_1), (38, U58_2), (53, U58_3), (65, U58_4), (81, U58_5), (95, U58_6), (109, U58_7)]
theorem V58 : Tkb P58 U58 := Tbc V58_0 (Tbc V58_1 (Tbc V58_2 (Tbc V58_3 (Tbc V58_4 (Tbc V58_5 (Tbc V58_6 (Tbc V58_7 (Tbn))))))))
def U59_0 : List (Nat × zT) := [(0, tLd 2 0 1), (1, tK 4 2), (2, tLd 0 2 3), (3, tCV 3 53 2), (6, tLd 0 2 7), (7, tB1 1 21 10), (10, tLd 2 0 11), (11, tK 44 13)]
theorem V59_0 : Tkp B59_0 U59_0 := Tkc d_LA (Tkc (d_K rfl) (Tkc d_LI (Tkc d_CV (Tkc d_LI (Tkc d_ifle (Tkc d_LA (Tkc (d_K rfl) (Tkn))))))))
def U59_1 : List (Nat × zT) := [(13, tCV 3 54 1), (16, tB1 3 21 19), (19, tK 0 20), (20, tRZ), (21, tLd 2 0 22), (22, tK 2 23), (23, tK 99 25), (25, tCV 3 61 2)]
theorem V59_1 : Tkp B59_1 U59_1 := Tkc d_CV (Tkc d_ifne (Tkc (d_K rfl) (Tkc d_RZ (Tkc d_LA (Tkc (d_K rfl) (Tkc (d_K rfl) (Tkc d_CV (Tkn))))))))
def U59_2 : List (Nat × zT) := [(28, tSt false 0 3 29), (29, tLd 0 3 30), (30, tK (-1) 31), (31, tB2 3 36 34), (34, tK 0 35), (35, tRZ), (36, tLd 2 1 37), (37, tLd 2 1 38)]
theorem V59_2 : Tkp B59_2 U59_2 := Tkc (d_SI (i := 3) (nL := 4) (n := 29) rfl) (Tkc d_LI (Tkc (d_K rfl) (Tkc d_icne (Tkc (d_K rfl) (Tkc d_RZ (Tkc d_LA (Tkc d_LA (Tkn))))))))
def U59_3 : List (Nat × zT) := [(38, tGe 0 2 41), (41, tLd 0 2 42), (42, tLd 0 3 43), (43, tCV 0 4 3), (46, tK 1 47), (47, tRZ)]
theorem V59_3 : Tkp B59_3 U59_3 := Tkc d_Ge (Tkc d_LI (Tkc d_LI (Tkc d_CV (Tkc (d_K rfl) (Tkc d_RZ (Tkn))))))
def U59 : zP := [(11, U59_0), (25, U59_1), (37, U59_2), (47, U59_3)]
theorem V59 : Tkb P59 U59 := Tbc V59_0 (Tbc V59_1 (Tbc V59_2 (Tbc V59_3 (Tbn))))
def U60_0 : List (Nat × zT) := [(0, tLd 2 0 1), (1, tK 5 2), (2, tK 0 3), (3, tCV 3 53 2), (6, tLd 2 0 7), (7, tK 59 9), (9, tCV 3 54 1), (12, tRZ)]
theorem V60_0 : Tkp B60_0 U60_0 := Tkc d_LA (Tkc (d_K rfl) (Tkc (d_K rfl) (Tkc d_CV (Tkc d_LA (Tkc (d_K rfl) (Tkc d_CV (Tkc d_RZ (Tkn))))))))
def U60 : zP := [(12, U60_0)]
theorem V60 : Tkb P60 U60 := Tbc V60_0 (Tbn)
def U61_0 : List (Nat × zT) := [(0, tK (-1) 1), (1, tSt false 0 3 2), (2, tK 0 3), (3, tSt false 0 4 5), (5, tLd 0 4 7), (7, tLd 0 1 8), (8, tB2 5 79 11), (11, tLd 2 0 12)]
theorem V61_0 : Tkp B61_0 U61_0 := Tkc (d_K rfl) (Tkc (d_SI (i := 3) (nL := 7) (n := 2) rfl) (Tkc (d_K rfl) (Tkc (d_SI (i := 4) (nL := 7) (n := 5) rfl) (Tkc d_LI (Tkc d_LI (Tkc d_icge (Tkc d_LA (Tkn))))))))
def U61_1 : List (Nat × zT) := [(12, tCV 3 52 0), (15, tSt false 0 5 17), (17, tLd 0 4 19), (19, tB1 3 26 22), (22, tK 0 23), (23, tGo 30), (26, tK 10 28), (28, tLd 0 3 29)]
theorem V61_1 : Tkp B61_1 U61_1 := Tkc d_CV (Tkc (d_SI (i := 5) (nL := 7) (n := 17) rfl) (Tkc d_LI (Tkc d_ifne (Tkc (d_K rfl) (Tkc d_Go (Tkc (d_K rfl) (Tkc d_LI (Tkn))))))))
def U61_2 : List (Nat × zT) := [(29, tI2 gxm 30), (30, tLd 0 5 32), (32, tK 48 34), (34, tSb 35), (35, tAd 36), (36, tSt false 0 6 38), (38, tLd 0 5 40), (40, tK 48 42)]
theorem V61_2 : Tkp B61_2 U61_2 := Tkc d_mul (Tkc d_LI (Tkc (d_K rfl) (Tkc d_Sb (Tkc d_Ad (Tkc (d_SI (i := 6) (nL := 7) (n := 38) rfl) (Tkc d_LI (Tkc (d_K rfl) (Tkn))))))))
def U61_3 : List (Nat × zT) := [(42, tB2 0 58 45), (45, tLd 0 5 47), (47, tK 57 49), (49, tB2 4 58 52), (52, tLd 0 6 54), (54, tLd 0 2 55), (55, tB2 1 60 58), (58, tLd 0 3 59)]
theorem V61_3 : Tkp B61_3 U61_3 := Tkc d_iclt (Tkc d_LI (Tkc (d_K rfl) (Tkc d_icgt (Tkc d_LI (Tkc d_LI (Tkc d_icle (Tkc d_LI (Tkn))))))))
def U61_4 : List (Nat × zT) := [(59, tRt 0), (60, tLd 0 6 62), (62, tSt false 0 3 63), (63, tLd 2 0 64), (64, tDu 65), (65, tGe 3 3 68), (68, tK 1 69), (69, tAd 70)]
theorem V61_4 : Tkp B61_4 U61_4 := Tkc d_RI (Tkc d_LI (Tkc (d_SI (i := 3) (nL := 7) (n := 63) rfl) (Tkc d_LA (Tkc d_Du (Tkc d_Ge (Tkc (d_K rfl) (Tkc d_Ad (Tkn))))))))
def U61_5 : List (Nat × zT) := [(70, tPI 3 3 73), (73, tIn 4 1 76), (76, tGo 5), (79, tLd 0 3 80), (80, tRt 0)]
theorem V61_5 : Tkp B61_5 U61_5 := Tkc d_PI (Tkc (d_In (i := 4) (x := 1) (nL := 7) (n := 76) (c := 1) rfl rfl) (Tkc d_Go (Tkc d_LI (Tkc d_RI (Tkn)))))
def U61 : zP := [(11, U61_0), (28, U61_1), (40, U61_2), (58, U61_3), (69, U61_4), (80, U61_5)]
theorem V61 : Tkb P61 U61 := Tbc V61_0 (Tbc V61_1 (Tbc V61_2 (Tbc V61_3 (Tbc V61_4 (Tbc V61_5 (Tbn))))))
def U63_0 : List (Nat × zT) := [(0, tLd 0 1 1), (1, tB1 0 10 4), (4, tLd 0 1 5), (5, tK 127 7), (7, tB2 1 15 10), (10, tLd 2 0 11), (11, tCV 4 91 0), (14, tRt 0)]
theorem V63_0 : Tkp B63_0 U63_0 := Tkc d_LI (Tkc d_iflt (Tkc d_LI (Tkc (d_K rfl) (Tkc d_icle (Tkc d_LA (Tkc d_CV (Tkc d_RI (Tkn))))))))
def U63_1 : List (Nat × zT) := [(15, tLd 2 0 16), (16, tGe 4 0 19), (19, tGe 3 1 22), (22, tK 160 25), (25, tB2 0 33 28), (28, tLd 2 0 29), (29, tCV 4 93 0), (32, tRt 0)]
theorem V63_1 : Tkp B63_1 U63_1 := Tkc d_LA (Tkc d_Ge (Tkc d_Ge (Tkc (d_K rfl) (Tkc d_iclt (Tkc d_LA (Tkc d_CV (Tkc d_RI (Tkn))))))))
def U63_2 : List (Nat × zT) := [(33, tLd 2 0 34), (34, tGe 4 0 37), (37, tLd 0 1 38), (38, tCV 3 48 1), (41, tRt 0)]
theorem V63_2 : Tkp B63_2 U63_2 := Tkc d_LA (Tkc d_Ge (Tkc d_LI (Tkc d_CV (Tkc d_RI (Tkn)))))
def U63 : zP := [(14, U63_0), (32, U63_1), (41, U63_2)]
theorem V63 : Tkb P63 U63 := Tbc V63_0 (Tbc V63_1 (Tbc V63_2 (Tbn)))
def U64_0 : List (Nat × zT) := [(0, tLd 2 0 1), (1, tGe 4 0 4), (4, tCV 3 49 0), (7, tRt 0)]
theorem V64_0 : Tkp B64_0 U64_0 := Tkc d_LA (Tkc d_Ge (Tkc d_CV (Tkc d_RI (Tkn))))
def U64 : zP := [(7, U64_0)]
theorem V64 : Tkb P64 U64 := Tbc V64_0 (Tbn)
def U65_0 : List (Nat × zT) := [(0, tLd 2 0 1), (1, tGe 4 2 4), (4, tCV 0 12 0), (7, tLd 2 0 8), (8, tGe 4 0 11), (11, tLd 2 0 12), (12, tGe 4 2 15), (15, tCV 3 50 1)]
theorem V65_0 : Tkp B65_0 U65_0 := Tkc d_LA (Tkc d_Ge (Tkc d_CV (Tkc d_LA (Tkc d_Ge (Tkc d_LA (Tkc d_Ge (Tkc d_CV (Tkn))))))))
def U65_1 : List (Nat × zT) := [(18, tB1 3 32 21), (21, tK (-10) 23), (23, tLd 2 0 24), (24, tGe 4 0 27), (27, tGe 3 3 30), (30, tSb 31), (31, tRt 0), (32, tLd 2 0 33)]
theorem V65_1 : Tkp B65_1 U65_1 := Tkc d_ifne (Tkc (d_K rfl) (Tkc d_LA (Tkc d_Ge (Tkc d_Ge (Tkc d_Sb (Tkc d_RI (Tkc d_LA (Tkn))))))))
def U65_2 : List (Nat × zT) := [(33, tGe 4 3 36), (36, tLd 2 0 37), (37, tGe 4 1 40), (40, tCV 2 45 1), (43, tLd 2 0 44), (44, tGe 4 1 47), (47, tLd 2 0 48), (48, tGe 4 2 51)]
theorem V65_2 : Tkp B65_2 U65_2 := Tkc d_Ge (Tkc d_LA (Tkc d_Ge (Tkc d_CV (Tkc d_LA (Tkc d_Ge (Tkc d_LA (Tkc d_Ge (Tkn))))))))
def U65_3 : List (Nat × zT) := [(51, tCV 0 31 1), (54, tLd 2 0 55), (55, tCV 4 90 0), (58, tLd 2 0 59), (59, tGe 4 0 62), (62, tGe 3 4 65), (65, tRt 0)]
theorem V65_3 : Tkp B65_3 U65_3 := Tkc d_CV (Tkc d_LA (Tkc d_CV (Tkc d_LA (Tkc d_Ge (Tkc d_Ge (Tkc d_RI (Tkn)))))))
def U65 : zP := [(15, U65_0), (32, U65_1), (48, U65_2), (65, U65_3)]
theorem V65 : Tkb P65 U65 := Tbc V65_0 (Tbc V65_1 (Tbc V65_2 (Tbc V65_3 (Tbn))))
def U66_0 : List (Nat × zT) := [(0, tLd 0 1 1), (1, tB1 0 9 4), (4, tLd 0 1 5), (5, tK 4 6), (6, tB2 0 14 9), (9, tLd 2 0 10), (10, tCV 4 91 0), (13, tRt 0)]
theorem V66_0 : Tkp B66_0 U66_0 := Tkc d_LI (Tkc d_iflt (Tkc d_LI (Tkc (d_K rfl) (Tkc d_iclt (Tkc d_LA (Tkc d_CV (Tkc d_RI (Tkn))))))))
def U66_1 : List (Nat × zT) := [(14, tLd 2 0 15), (15, tGe 4 0 18), (18, tGe 3 2 21), (21, tLd 0 1 22), (22, tAI 23), (23, tRt 0)]
theorem V66_1 : Tkp B66_1 U66_1 := Tkc d_LA (Tkc d_Ge (Tkc d_Ge (Tkc d_LI (Tkc d_AI (Tkc d_RI (Tkn))))))
def U66 : zP := [(13, U66_0), (23, U66_1)]
theorem V66 : Tkb P66 U66 := Tbc V66_0 (Tbc V66_1 (Tbn))
def U67_0 : List (Nat × zT) := [(0, tLd 2 0 1), (1, tGe 4 1 4), (4, tLd 0 1 5), (5, tCV 0 1 1), (8, tB1 2 20 11), (11, tLd 0 2 12), (12, tB1 0 20 15), (15, tLd 0 2 16)]
theorem V67_0 : Tkp B67_0 U67_0 := Tkc d_LA (Tkc d_Ge (Tkc d_LI (Tkc d_CV (Tkc d_ifeq (Tkc d_LI (Tkc d_iflt (Tkc d_LI (Tkn))))))))
def U67_1 : List (Nat × zT) := [(16, tK 4 17), (17, tB2 0 25 20), (20, tLd 2 0 21), (21, tCV 4 91 0), (24, tRt 0), (25, tLd 0 2 26), (26, tTb [52, 62, 72] 82), (52, tLd 2 0 53)]
theorem V67_1 : Tkp B67_1 U67_1 := Tkc (d_K rfl) (Tkc d_iclt (Tkc d_LA (Tkc d_CV (Tkc d_RI (Tkc d_LI (Tkc d_Tb (Tkc d_LA (Tkn))))))))
def U67_2 : List (Nat × zT) := [(53, tGe 4 1 56), (56, tGe 0 1 59), (59, tLd 0 1 60), (60, tAI 61), (61, tRt 0), (62, tLd 2 0 63), (63, tGe 4 1 66), (66, tGe 0 13 69)]
theorem V67_2 : Tkp B67_2 U67_2 := Tkc d_Ge (Tkc d_Ge (Tkc d_LI (Tkc d_AI (Tkc d_RI (Tkc d_LA (Tkc d_Ge (Tkc d_Ge (Tkn))))))))
def U67_3 : List (Nat × zT) := [(69, tLd 0 1 70), (70, tAI 71), (71, tRt 0), (72, tLd 2 0 73), (73, tGe 4 1 76), (76, tGe 0 14 79), (79, tLd 0 1 80), (80, tAI 81)]
theorem V67_3 : Tkp B67_3 U67_3 := Tkc d_LI (Tkc d_AI (Tkc d_RI (Tkc d_LA (Tkc d_Ge (Tkc d_Ge (Tkc d_LI (Tkc d_AI (Tkn))))))))
def U67_4 : List (Nat × zT) := [(81, tRt 0), (82, tLd 2 0 83), (83, tGe 4 1 86), (86, tGe 0 16 89), (89, tLd 0 1 90), (90, tCS 94 2), (93, tRt 0)]
theorem V67_4 : Tkp B67_4 U67_4 := Tkc d_RI (Tkc d_LA (Tkc d_Ge (Tkc d_Ge (Tkc d_LI (Tkc d_CS (Tkc d_RI (Tkn)))))))
def U67 : zP := [(15, U67_0), (52, U67_1), (66, U67_2), (80, U67_3), (93, U67_4)]
theorem V67 : Tkb P67 U67 := Tbc V67_0 (Tbc V67_1 (Tbc V67_2 (Tbc V67_3 (Tbc V67_4 (Tbn)))))
def U68_0 : List (Nat × zT) := [(0, tLd 2 0 1), (1, tGe 4 1 4), (4, tLd 0 1 5), (5, tCV 0 2 1), (8, tB1 2 21 11), (11, tLd 0 2 12), (12, tB1 0 21 15), (15, tLd 0 2 16)]
theorem V68_0 : Tkp B68_0 U68_0 := Tkc d_LA (Tkc d_Ge (Tkc d_LI (Tkc d_CV (Tkc d_ifeq (Tkc d_LI (Tkc d_iflt (Tkc d_LI (Tkn))))))))
def U68_1 : List (Nat × zT) := [(16, tK 6 18), (18, tB2 0 26 21), (21, tLd 2 0 22), (22, tCV 4 91 0), (25, tRt 0), (26, tLd 0 2 27), (27, tTb [60, 70, 82, 91, 101] 110), (60, tLd 2 0 61)]
theorem V68_1 : Tkp B68_1 U68_1 := Tkc (d_K rfl) (Tkc d_iclt (Tkc d_LA (Tkc d_CV (Tkc d_RI (Tkc d_LI (Tkc d_Tb (Tkc d_LA (Tkn))))))))
def U68_2 : List (Nat × zT) := [(61, tGe 4 1 64), (64, tGe 0 3 67), (67, tLd 0 1 68), (68, tAI 69), (69, tRt 0), (70, tLd 2 0 71), (71, tGe 4 1 74), (74, tGe 0 15 77)]
theorem V68_2 : Tkp B68_2 U68_2 := Tkc d_Ge (Tkc d_Ge (Tkc d_LI (Tkc d_AI (Tkc d_RI (Tkc d_LA (Tkc d_Ge (Tkc d_Ge (Tkn))))))))
def U68_3 : List (Nat × zT) := [(77, tLd 0 1 78), (78, tCS 94 2), (81, tRt 0), (82, tLd 2 0 83), (83, tGe 4 1 86), (86, tLd 0 1 87), (87, tCV 0 8 1), (90, tRt 0)]
theorem V68_3 : Tkp B68_3 U68_3 := Tkc d_LI (Tkc d_CS (Tkc d_RI (Tkc d_LA (Tkc d_Ge (Tkc d_LI (Tkc d_CV (Tkc d_RI (Tkn))))))))
def U68_4 : List (Nat × zT) := [(91, tLd 2 0 92), (92, tGe 4 1 95), (95, tGe 0 10 98), (98, tLd 0 1 99), (99, tAI 100), (100, tRt 0), (101, tLd 2 0 102), (102, tGe 4 1 105)]
theorem V68_4 : Tkp B68_4 U68_4 := Tkc d_LA (Tkc d_Ge (Tkc d_Ge (Tkc d_LI (Tkc d_AI (Tkc d_RI (Tkc d_LA (Tkc d_Ge (Tkn))))))))
def U68_5 : List (Nat × zT) := [(105, tLd 0 1 106), (106, tCV 0 7 1), (109, tRt 0), (110, tLd 2 0 111), (111, tGe 4 1 114), (114, tLd 0 1 115), (115, tCV 0 9 1), (118, tRt 0)]
theorem V68_5 : Tkp B68_5 U68_5 := Tkc d_LI (Tkc d_CV (Tkc d_RI (Tkc d_LA (Tkc d_Ge (Tkc d_LI (Tkc d_CV (Tkc d_RI (Tkn))))))))
def U68 : zP := [(15, U68_0), (60, U68_1), (74, U68_2), (90, U68_3), (102, U68_4), (118, U68_5)]
theorem V68 : Tkb P68 U68 := Tbc V68_0 (Tbc V68_1 (Tbc V68_2 (Tbc V68_3 (Tbc V68_4 (Tbc V68_5 (Tbn))))))
def U69_0 : List (Nat × zT) := [(0, tLd 2 0 1), (1, tGe 4 1 4), (4, tLd 0 1 5), (5, tCV 0 2 1), (8, tB1 2 22 11), (11, tLd 2 0 12), (12, tGe 4 1 15), (15, tLd 0 2 16)]
theorem V69_0 : Tkp B69_0 U69_0 := Tkc d_LA (Tkc d_Ge (Tkc d_LI (Tkc d_CV (Tkc d_ifeq (Tkc d_LA (Tkc d_Ge (Tkc d_LI (Tkn))))))))
def U69_1 : List (Nat × zT) := [(16, tCV 0 1 1), (19, tB1 3 27 22), (22, tLd 2 0 23), (23, tCV 4 91 0), (26, tRt 0), (27, tLd 2 0 28), (28, tGe 4 1 31), (31, tLd 0 1 32)]
theorem V69_1 : Tkp B69_1 U69_1 := Tkc d_CV (Tkc d_ifne (Tkc d_LA (Tkc d_CV (Tkc d_RI (Tkc d_LA (Tkc d_Ge (Tkc d_LI (Tkn))))))))
def U69_2 : List (Nat × zT) := [(32, tLd 0 2 33), (33, tCV 0 3 2), (36, tRt 0)]
theorem V69_2 : Tkp B69_2 U69_2 := Tkc d_LI (Tkc d_CV (Tkc d_RI (Tkn)))
def U69 : zP := [(15, U69_0), (31, U69_1), (36, U69_2)]
theorem V69 : Tkb P69 U69 := Tbc V69_0 (Tbc V69_1 (Tbc V69_2 (Tbn)))
def U70_0 : List (Nat × zT) := [(0, tLd 0 1 1), (1, tB1 5 9 4), (4, tLd 2 0 5), (5, tCV 4 91 0), (8, tRt 0), (9, tLd 2 0 10), (10, tGe 4 1 13), (13, tLd 0 1 14)]
theorem V70_0 : Tkp B70_0 U70_0 := Tkc d_LI (Tkc d_ifge (Tkc d_LA (Tkc d_CV (Tkc d_RI (Tkc d_LA (Tkc d_Ge (Tkc d_LI (Tkn))))))))
def U70_1 : List (Nat × zT) := [(14, tCV 0 6 1), (17, tRt 0)]
theorem V70_1 : Tkp B70_1 U70_1 := Tkc d_CV (Tkc d_RI (Tkn))
def U70 : zP := [(13, U70_0), (17, U70_1)]
theorem V70 : Tkb P70 U70 := Tbc V70_0 (Tbc V70_1 (Tbn))
def U71_0 : List (Nat × zT) := [(0, tLd 2 0 1), (1, tGe 4 1 4), (4, tLd 0 1 5), (5, tCV 0 2 1), (8, tB1 2 32 11), (11, tLd 2 0 12), (12, tGe 4 1 15), (15, tLd 0 2 16)]
theorem V71_0 : Tkp B71_0 U71_0 := Tkc d_LA (Tkc d_Ge (Tkc d_LI (Tkc d_CV (Tkc d_ifeq (Tkc d_LA (Tkc d_Ge (Tkc d_LI (Tkn))))))))
def U71_1 : List (Nat × zT) := [(16, tCV 0 1 1), (19, tB1 2 32 22), (22, tLd 0 3 23), (23, tB1 0 32 26), (26, tLd 0 3 27), (27, tK 99 29), (29, tB2 1 37 32), (32, tLd 2 0 33)]
theorem V71_1 : Tkp B71_1 U71_1 := Tkc d_CV (Tkc d_ifeq (Tkc d_LI (Tkc d_iflt (Tkc d_LI (Tkc (d_K rfl) (Tkc d_icle (Tkc d_LA (Tkn))))))))
def U71_2 : List (Nat × zT) := [(33, tCV 4 91 0), (36, tRt 0), (37, tLd 2 0 38), (38, tGe 4 1 41), (41, tLd 0 1 42), (42, tLd 0 2 43), (43, tCV 0 3 2), (46, tSt false 0 4 48)]
theorem V71_2 : Tkp B71_2 U71_2 := Tkc d_CV (Tkc d_RI (Tkc d_LA (Tkc d_Ge (Tkc d_LI (Tkc d_LI (Tkc d_CV (Tkc (d_SI (i := 4) (nL := 5) (n := 48) rfl) (Tkn))))))))
def U71_3 : List (Nat × zT) := [(48, tLd 0 4 50), (50, tLd 0 3 51), (51, tB2 3 59 54), (54, tLd 2 0 55), (55, tCV 4 92 0), (58, tRt 0), (59, tLd 2 0 60), (60, tGe 4 3 63)]
theorem V71_3 : Tkp B71_3 U71_3 := Tkc d_LI (Tkc d_LI (Tkc d_icne (Tkc d_LA (Tkc d_CV (Tkc d_RI (Tkc d_LA (Tkc d_Ge (Tkn))))))))
def U71_4 : List (Nat × zT) := [(63, tLd 2 0 64), (64, tGe 4 1 67), (67, tCV 2 45 1), (70, tLd 2 0 71), (71, tGe 4 1 74), (74, tLd 0 1 75), (75, tLd 0 2 76), (76, tLd 0 3 77)]
theorem V71_4 : Tkp B71_4 U71_4 := Tkc d_LA (Tkc d_Ge (Tkc d_CV (Tkc d_LA (Tkc d_Ge (Tkc d_LI (Tkc d_LI (Tkc d_LI (Tkn))))))))
def U71_5 : List (Nat × zT) := [(77, tCV 0 4 3), (80, tLd 2 0 81), (81, tCV 4 90 0), (84, tLd 0 4 86), (86, tRt 0)]
theorem V71_5 : Tkp B71_5 U71_5 := Tkc d_CV (Tkc d_LA (Tkc d_CV (Tkc d_LI (Tkc d_RI (Tkn)))))
def U71 : zP := [(15, U71_0), (32, U71_1), (46, U71_2), (60, U71_3), (76, U71_4), (86, U71_5)]
theorem V71 : Tkb P71 U71 := Tbc V71_0 (Tbc V71_1 (Tbc V71_2 (Tbc V71_3 (Tbc V71_4 (Tbc V71_5 (Tbn))))))
def U72_0 : List (Nat × zT) := [(0, tLd 2 0 1), (1, tGe 4 1 4), (4, tLd 0 1 5), (5, tCV 0 2 1), (8, tB1 2 23 11), (11, tLd 0 2 12), (12, tK 1 13), (13, tB2 0 23 16)]
theorem V72_0 : Tkp B72_0 U72_0 := Tkc d_LA (Tkc d_Ge (Tkc d_LI (Tkc d_CV (Tkc d_ifeq (Tkc d_LI (Tkc (d_K rfl) (Tkc d_iclt (Tkn))))))))
def U72_1 : List (Nat × zT) := [(16, tLd 0 2 17), (17, tK 999 20), (20, tB2 1 28 23), (23, tLd 2 0 24), (24, tCV 4 91 0), (27, tRt 0), (28, tLd 2 0 29), (29, tGe 4 1 32)]
theorem V72_1 : Tkp B72_1 U72_1 := Tkc d_LI (Tkc (d_K rfl) (Tkc d_icle (Tkc d_LA (Tkc d_CV (Tkc d_RI (Tkc d_LA (Tkc d_Ge (Tkn))))))))
def U72_2 : List (Nat × zT) := [(32, tGe 0 3 35), (35, tLd 0 1 36), (36, tAI 37), (37, tSt false 0 3 38), (38, tLd 0 3 39), (39, tLd 0 2 40), (40, tB2 3 48 43), (43, tLd 2 0 44)]
theorem V72_2 : Tkp B72_2 U72_2 := Tkc d_Ge (Tkc d_LI (Tkc d_AI (Tkc (d_SI (i := 3) (nL := 4) (n := 38) rfl) (Tkc d_LI (Tkc d_LI (Tkc d_icne (Tkc d_LA (Tkn))))))))
def U72_3 : List (Nat × zT) := [(44, tCV 4 92 0), (47, tRt 0), (48, tLd 2 0 49), (49, tGe 4 3 52), (52, tLd 2 0 53), (53, tGe 4 1 56), (56, tCV 2 45 1), (59, tLd 2 0 60)]
theorem V72_3 : Tkp B72_3 U72_3 := Tkc d_CV (Tkc d_RI (Tkc d_LA (Tkc d_Ge (Tkc d_LA (Tkc d_Ge (Tkc d_CV (Tkc d_LA (Tkn))))))))
def U72_4 : List (Nat × zT) := [(60, tGe 4 1 63), (63, tGe 0 3 66), (66, tLd 0 1 67), (67, tLd 0 2 68), (68, tAT 69), (69, tLd 2 0 70), (70, tCV 4 90 0), (73, tLd 0 3 74)]
theorem V72_4 : Tkp B72_4 U72_4 := Tkc d_Ge (Tkc d_Ge (Tkc d_LI (Tkc d_LI (Tkc d_AT (Tkc d_LA (Tkc d_CV (Tkc d_LI (Tkn))))))))
def U72_5 : List (Nat × zT) := [(74, tRt 0)]
theorem V72_5 : Tkp B72_5 U72_5 := Tkc d_RI (Tkn)
def U72 : zP := [(13, U72_0), (29, U72_1), (43, U72_2), (59, U72_3), (73, U72_4), (74, U72_5)]
theorem V72 : Tkb P72 U72 := Tbc V72_0 (Tbc V72_1 (Tbc V72_2 (Tbc V72_3 (Tbc V72_4 (Tbc V72_5 (Tbn))))))
def U73_0 : List (Nat × zT) := [(0, tLd 0 1 1), (1, tB1 0 9 4), (4, tLd 0 1 5), (5, tK 4 6), (6, tB2 1 14 9), (9, tLd 2 0 10), (10, tCV 4 91 0), (13, tRt 0)]
theorem V73_0 : Tkp B73_0 U73_0 := Tkc d_LI (Tkc d_iflt (Tkc d_LI (Tkc (d_K rfl) (Tkc d_icle (Tkc d_LA (Tkc d_CV (Tkc d_RI (Tkn))))))))
def U73_1 : List (Nat × zT) := [(14, tLd 2 0 15), (15, tGe 4 1 18), (18, tGe 0 6 21), (21, tSt false 0 2 22), (22, tLd 0 2 23), (23, tLd 0 1 24), (24, tB2 3 32 27), (27, tLd 2 0 28)]
theorem V73_1 : Tkp B73_1 U73_1 := Tkc d_LA (Tkc d_Ge (Tkc d_Ge (Tkc (d_SI (i := 2) (nL := 3) (n := 22) rfl) (Tkc d_LI (Tkc d_LI (Tkc d_icne (Tkc d_LA (Tkn))))))))
def U73_2 : List (Nat × zT) := [(28, tCV 4 92 0), (31, tRt 0), (32, tLd 2 0 33), (33, tGe 4 3 36), (36, tLd 2 0 37), (37, tGe 4 1 40), (40, tCV 2 45 1), (43, tLd 2 0 44)]
theorem V73_2 : Tkp B73_2 U73_2 := Tkc d_CV (Tkc d_RI (Tkc d_LA (Tkc d_Ge (Tkc d_LA (Tkc d_Ge (Tkc d_CV (Tkc d_LA (Tkn))))))))
def U73_3 : List (Nat × zT) := [(44, tGe 4 1 47), (47, tLd 0 1 48), (48, tPI 0 6 51), (51, tLd 2 0 52), (52, tCV 4 90 0), (55, tLd 0 2 56), (56, tRt 0)]
theorem V73_3 : Tkp B73_3 U73_3 := Tkc d_Ge (Tkc d_LI (Tkc d_PI (Tkc d_LA (Tkc d_CV (Tkc d_LI (Tkc d_RI (Tkn)))))))
def U73 : zP := [(13, U73_0), (27, U73_1), (43, U73_2), (56, U73_3)]
theorem V73 : Tkb P73 U73 := Tbc V73_0 (Tbc V73_1 (Tbc V73_2 (Tbc V73_3 (Tbn))))
def U74_0 : List (Nat × zT) := [(0, tLd 2 0 1), (1, tGe 4 1 4), (4, tLd 0 1 5), (5, tCV 0 1 1), (8, tB1 2 22 11), (11, tLd 2 0 12), (12, tGe 4 1 15), (15, tLd 0 2 16)]
theorem V74_0 : Tkp B74_0 U74_0 := Tkc d_LA (Tkc d_Ge (Tkc d_LI (Tkc d_CV (Tkc d_ifeq (Tkc d_LA (Tkc d_Ge (Tkc d_LI (Tkn))))))))
def U74_1 : List (Nat × zT) := [(16, tCV 0 1 1), (19, tB1 3 27 22), (22, tLd 2 0 23), (23, tCV 4 91 0), (26, tRt 0), (27, tLd 0 1 28), (28, tLd 0 2 29), (29, tB2 3 37 32)]
theorem V74_1 : Tkp B74_1 U74_1 := Tkc d_CV (Tkc d_ifne (Tkc d_LA (Tkc d_CV (Tkc d_RI (Tkc d_LI (Tkc d_LI (Tkc d_icne (Tkn))))))))
def U74_2 : List (Nat × zT) := [(32, tLd 2 0 33), (33, tCV 4 92 0), (36, tRt 0), (37, tLd 2 0 38), (38, tGe 4 3 41), (41, tLd 2 0 42), (42, tGe 4 1 45), (45, tCV 2 45 1)]
theorem V74_2 : Tkp B74_2 U74_2 := Tkc d_LA (Tkc d_CV (Tkc d_RI (Tkc d_LA (Tkc d_Ge (Tkc d_LA (Tkc d_Ge (Tkc d_CV (Tkn))))))))
def U74_3 : List (Nat × zT) := [(48, tLd 2 0 49), (49, tGe 4 1 52), (52, tLd 0 1 53), (53, tLd 0 2 54), (54, tCV 0 15 2), (57, tLd 2 0 58), (58, tCV 4 90 0), (61, tLd 2 0 62)]
theorem V74_3 : Tkp B74_3 U74_3 := Tkc d_LA (Tkc d_Ge (Tkc d_LI (Tkc d_LI (Tkc d_CV (Tkc d_LA (Tkc d_CV (Tkc d_LA (Tkn))))))))
def U74_4 : List (Nat × zT) := [(62, tGe 4 1 65), (65, tGe 0 0 68), (68, tRt 0)]
theorem V74_4 : Tkp B74_4 U74_4 := Tkc d_Ge (Tkc d_Ge (Tkc d_RI (Tkn)))
def U74 : zP := [(15, U74_0), (29, U74_1), (45, U74_2), (61, U74_3), (68, U74_4)]
theorem V74 : Tkb P74 U74 := Tbc V74_0 (Tbc V74_1 (Tbc V74_2 (Tbc V74_3 (Tbc V74_4 (Tbn)))))
def U75_0 : List (Nat × zT) := [(0, tLd 2 0 1), (1, tGe 4 1 4), (4, tLd 0 1 5), (5, tCV 0 2 1), (8, tB1 2 22 11), (11, tLd 2 0 12), (12, tGe 4 1 15), (15, tLd 0 2 16)]
theorem V75_0 : Tkp B75_0 U75_0 := Tkc d_LA (Tkc d_Ge (Tkc d_LI (Tkc d_CV (Tkc d_ifeq (Tkc d_LA (Tkc d_Ge (Tkc d_LI (Tkn))))))))
def U75_1 : List (Nat × zT) := [(16, tCV 0 2 1), (19, tB1 3 27 22), (22, tLd 2 0 23), (23, tCV 4 91 0), (26, tRt 0), (27, tLd 0 1 28), (28, tLd 0 2 29), (29, tB2 3 37 32)]
theorem V75_1 : Tkp B75_1 U75_1 := Tkc d_CV (Tkc d_ifne (Tkc d_LA (Tkc d_CV (Tkc d_RI (Tkc d_LI (Tkc d_LI (Tkc d_icne (Tkn))))))))
def U75_2 : List (Nat × zT) := [(32, tLd 2 0 33), (33, tCV 4 92 0), (36, tRt 0), (37, tLd 2 0 38), (38, tGe 4 3 41), (41, tLd 2 0 42), (42, tGe 4 1 45), (45, tCV 2 45 1)]
theorem V75_2 : Tkp B75_2 U75_2 := Tkc d_LA (Tkc d_CV (Tkc d_RI (Tkc d_LA (Tkc d_Ge (Tkc d_LA (Tkc d_Ge (Tkc d_CV (Tkn))))))))
def U75_3 : List (Nat × zT) := [(48, tLd 2 0 49), (49, tGe 4 1 52), (52, tLd 0 1 53), (53, tLd 0 2 54), (54, tCV 0 17 2), (57, tLd 2 0 58), (58, tCV 4 90 0), (61, tLd 2 0 62)]
theorem V75_3 : Tkp B75_3 U75_3 := Tkc d_LA (Tkc d_Ge (Tkc d_LI (Tkc d_LI (Tkc d_CV (Tkc d_LA (Tkc d_CV (Tkc d_LA (Tkn))))))))
def U75_4 : List (Nat × zT) := [(62, tGe 4 1 65), (65, tGe 0 2 68), (68, tRt 0)]
theorem V75_4 : Tkp B75_4 U75_4 := Tkc d_Ge (Tkc d_Ge (Tkc d_RI (Tkn)))
def U75 : zP := [(15, U75_0), (29, U75_1), (45, U75_2), (61, U75_3), (68, U75_4)]
theorem V75 : Tkb P75 U75 := Tbc V75_0 (Tbc V75_1 (Tbc V75_2 (Tbc V75_3 (Tbc V75_4 (Tbn)))))
def U76_0 : List (Nat × zT) := [(0, tLd 2 0 1), (1, tGe 4 1 4), (4, tLd 0 1 5), (5, tCV 0 1 1), (8, tB1 3 16 11), (11, tLd 2 0 12), (12, tCV 4 91 0), (15, tRt 0)]
theorem V76_0 : Tkp B76_0 U76_0 := Tkc d_LA (Tkc d_Ge (Tkc d_LI (Tkc d_CV (Tkc d_ifne (Tkc d_LA (Tkc d_CV (Tkc d_RI (Tkn))))))))
def U76_1 : List (Nat × zT) := [(16, tLd 2 0 17), (17, tGe 4 1 20), (20, tLd 0 1 21), (21, tCV 0 25 1), (24, tB1 3 32 27), (27, tLd 2 0 28), (28, tCV 4 92 0), (31, tRt 0)]
theorem V76_1 : Tkp B76_1 U76_1 := Tkc d_LA (Tkc d_Ge (Tkc d_LI (Tkc d_CV (Tkc d_ifne (Tkc d_LA (Tkc d_CV (Tkc d_RI (Tkn))))))))
def U76_2 : List (Nat × zT) := [(32, tLd 2 0 33), (33, tGe 4 3 36), (36, tLd 2 0 37), (37, tGe 4 1 40), (40, tCV 2 45 1), (43, tLd 2 0 44), (44, tGe 4 1 47), (47, tLd 0 1 48)]
theorem V76_2 : Tkp B76_2 U76_2 := Tkc d_LA (Tkc d_Ge (Tkc d_LA (Tkc d_Ge (Tkc d_CV (Tkc d_LA (Tkc d_Ge (Tkc d_LI (Tkn))))))))
def U76_3 : List (Nat × zT) := [(48, tCV 0 26 1), (51, tRt 0)]
theorem V76_3 : Tkp B76_3 U76_3 := Tkc d_CV (Tkc d_RI (Tkn))
def U76 : zP := [(15, U76_0), (31, U76_1), (47, U76_2), (51, U76_3)]
theorem V76 : Tkb P76 U76 := Tbc V76_0 (Tbc V76_1 (Tbc V76_2 (Tbc V76_3 (Tbn))))
def U77_0 : List (Nat × zT) := [(0, tLd 2 0 1), (1, tGe 4 1 4), (4, tLd 0 1 5), (5, tCV 0 2 1), (8, tB1 3 16 11), (11, tLd 2 0 12), (12, tCV 4 91 0), (15, tRt 0)]
theorem V77_0 : Tkp B77_0 U77_0 := Tkc d_LA (Tkc d_Ge (Tkc d_LI (Tkc d_CV (Tkc d_ifne (Tkc d_LA (Tkc d_CV (Tkc d_RI (Tkn))))))))
def U77_1 : List (Nat × zT) := [(16, tLd 2 0 17), (17, tGe 4 1 20), (20, tLd 0 1 21), (21, tCV 0 27 1), (24, tB1 3 32 27), (27, tLd 2 0 28), (28, tCV 4 92 0), (31, tRt 0)]
theorem V77_1 : Tkp B77_1 U77_1 := Tkc d_LA (Tkc d_Ge (Tkc d_LI (Tkc d_CV (Tkc d_ifne (Tkc d_LA (Tkc d_CV (Tkc d_RI (Tkn))))))))
def U77_2 : List (Nat × zT) := [(32, tLd 2 0 33), (33, tGe 4 3 36), (36, tLd 2 0 37), (37, tGe 4 1 40), (40, tCV 2 45 1), (43, tLd 2 0 44), (44, tGe 4 1 47), (47, tLd 0 1 48)]
theorem V77_2 : Tkp B77_2 U77_2 := Tkc d_LA (Tkc d_Ge (Tkc d_LA (Tkc d_Ge (Tkc d_CV (Tkc d_LA (Tkc d_Ge (Tkc d_LI (Tkn))))))))
def U77_3 : List (Nat × zT) := [(48, tCV 0 28 1), (51, tRt 0)]
theorem V77_3 : Tkp B77_3 U77_3 := Tkc d_CV (Tkc d_RI (Tkn))
def U77 : zP := [(15, U77_0), (31, U77_1), (47, U77_2), (51, U77_3)]
theorem V77 : Tkb P77 U77 := Tbc V77_0 (Tbc V77_1 (Tbc V77_2 (Tbc V77_3 (Tbn))))
def U78_0 : List (Nat × zT) := [(0, tLd 2 0 1), (1, tGe 4 1 4), (4, tLd 0 1 5), (5, tCV 0 2 1), (8, tB1 3 16 11), (11, tLd 2 0 12), (12, tCV 4 91 0), (15, tRt 0)]
theorem V78_0 : Tkp B78_0 U78_0 := Tkc d_LA (Tkc d_Ge (Tkc d_LI (Tkc d_CV (Tkc d_ifne (Tkc d_LA (Tkc d_CV (Tkc d_RI (Tkn))))))))
def U78_1 : List (Nat × zT) := [(16, tLd 2 0 17), (17, tGe 4 4 20), (20, tLd 2 0 21), (21, tGe 4 1 24), (24, tLd 0 1 25), (25, tLd 2 0 26), (26, tGe 4 1 29), (29, tGe 0 15 32)]
theorem V78_1 : Tkp B78_1 U78_1 := Tkc d_LA (Tkc d_Ge (Tkc d_LA (Tkc d_Ge (Tkc d_LI (Tkc d_LA (Tkc d_Ge (Tkc d_Ge (Tkn))))))))
def U78_2 : List (Nat × zT) := [(32, tCV 1 33 3), (35, tRt 0)]
theorem V78_2 : Tkp B78_2 U78_2 := Tkc d_CV (Tkc d_RI (Tkn))
def U78 : zP := [(15, U78_0), (29, U78_1), (35, U78_2)]
theorem V78 : Tkb P78 U78 := Tbc V78_0 (Tbc V78_1 (Tbc V78_2 (Tbn)))
def U79_0 : List (Nat × zT) := [(0, tLd 2 0 1), (1, tGe 4 4 4), (4, tLd 2 0 5), (5, tGe 4 1 8), (8, tCV 1 34 1), (11, tRt 0)]
theorem V79_0 : Tkp B79_0 U79_0 := Tkc d_LA (Tkc d_Ge (Tkc d_LA (Tkc d_Ge (Tkc d_CV (Tkc d_RI (Tkn))))))
def U79 : zP := [(11, U79_0)]
theorem V79 : Tkb P79 U79 := Tbc V79_0 (Tbn)
def U80_0 : List (Nat × zT) := [(0, tLd 2 0 1), (1, tGe 4 1 4), (4, tLd 0 1 5), (5, tCV 0 1 1), (8, tB1 3 16 11), (11, tLd 2 0 12), (12, tCV 4 91 0), (15, tRt 0)]
theorem V80_0 : Tkp B80_0 U80_0 := Tkc d_LA (Tkc d_Ge (Tkc d_LI (Tkc d_CV (Tkc d_ifne (Tkc d_LA (Tkc d_CV (Tkc d_RI (Tkn))))))))
def U80_1 : List (Nat × zT) := [(16, tLd 2 0 17), (17, tGe 4 1 20), (20, tLd 0 1 21), (21, tCV 0 25 1), (24, tB1 3 32 27), (27, tLd 2 0 28), (28, tCV 4 92 0), (31, tRt 0)]
theorem V80_1 : Tkp B80_1 U80_1 := Tkc d_LA (Tkc d_Ge (Tkc d_LI (Tkc d_CV (Tkc d_ifne (Tkc d_LA (Tkc d_CV (Tkc d_RI (Tkn))))))))
def U80_2 : List (Nat × zT) := [(32, tLd 2 0 33), (33, tGe 4 4 36), (36, tLd 2 0 37), (37, tGe 4 1 40), (40, tLd 0 1 41), (41, tCV 1 35 2), (44, tRt 0)]
theorem V80_2 : Tkp B80_2 U80_2 := Tkc d_LA (Tkc d_Ge (Tkc d_LA (Tkc d_Ge (Tkc d_LI (Tkc d_CV (Tkc d_RI (Tkn)))))))
def U80 : zP := [(15, U80_0), (31, U80_1), (44, U80_2)]
theorem V80 : Tkb P80 U80 := Tbc V80_0 (Tbc V80_1 (Tbc V80_2 (Tbn)))
