/-! the checker's programs of the methods, printed -/
def U153_0 : List (Nat × zT) := [(0, tLd 2 0 1), (1, tLd 2 0 2), (2, tGe 5 0 5), (5, tK 4 6), (6, tAI 7), (7, tCV 5 126 1), (10, tK (-1) 11), (11, tB2 2 18 14)]
theorem V153_0 : Tkp B153_0 U153_0 := Tkc d_LA (Tkc d_LA (Tkc d_Ge (Tkc (d_K rfl) (Tkc d_AI (Tkc d_CV (Tkc (d_K rfl) (Tkc d_iceq (Tkn))))))))
def U153_1 : List (Nat × zT) := [(14, tK 1 15), (15, tGo 19), (18, tK 0 19), (19, tRZ)]
theorem V153_1 : Tkp B153_1 U153_1 := Tkc (d_K rfl) (Tkc d_Go (Tkc (d_K rfl) (Tkc d_RZ (Tkn))))
def U153 : zP := [(11, U153_0), (19, U153_1)]
theorem V153 : Tkb P153 U153 := Tbc V153_0 (Tbc V153_1 (Tbn))
def U154_0 : List (Nat × zT) := [(0, tLd 2 0 1), (1, tCV 5 142 0), (4, tSt false 0 3 5), (5, tLd 2 0 6), (6, tCV 5 153 0), (9, tB1 3 18 12), (12, tLd 2 0 13), (13, tLd 0 1 14)]
theorem V154_0 : Tkp B154_0 U154_0 := Tkc d_LA (Tkc d_CV (Tkc (d_SI (i := 3) (nL := 4) (n := 5) rfl) (Tkc d_LA (Tkc d_CV (Tkc d_ifne (Tkc d_LA (Tkc d_LI (Tkn))))))))
def U154_1 : List (Nat × zT) := [(14, tCV 5 129 1), (17, tRt 0), (18, tLd 2 0 19), (19, tLd 0 3 20), (20, tCV 5 152 1), (23, tLd 2 0 24), (24, tLd 0 1 25), (25, tCV 5 129 1)]
theorem V154_1 : Tkp B154_1 U154_1 := Tkc d_CV (Tkc d_RI (Tkc d_LA (Tkc d_LI (Tkc d_CV (Tkc d_LA (Tkc d_LI (Tkc d_CV (Tkn))))))))
def U154_2 : List (Nat × zT) := [(28, tLd 2 0 29), (29, tGe 5 15 32), (32, tLd 2 0 33), (33, tGe 5 0 36), (36, tK 3 37), (37, tAI 38), (38, tLd 0 2 39), (39, tCS 147 2)]
theorem V154_2 : Tkp B154_2 U154_2 := Tkc d_LA (Tkc d_Ge (Tkc d_LA (Tkc d_Ge (Tkc (d_K rfl) (Tkc d_AI (Tkc d_LI (Tkc d_CS (Tkn))))))))
def U154_3 : List (Nat × zT) := [(42, tLd 0 1 43), (43, tAd 44), (44, tAI 45), (45, tAd 46), (46, tRt 0)]
theorem V154_3 : Tkp B154_3 U154_3 := Tkc d_LI (Tkc d_Ad (Tkc d_AI (Tkc d_Ad (Tkc d_RI (Tkn)))))
def U154 : zP := [(13, U154_0), (25, U154_1), (39, U154_2), (46, U154_3)]
theorem V154 : Tkb P154 U154 := Tbc V154_0 (Tbc V154_1 (Tbc V154_2 (Tbc V154_3 (Tbn))))
def U155_0 : List (Nat × zT) := [(0, tLd 2 0 1), (1, tLd 0 1 2), (2, tCV 5 103 1), (5, tB1 2 23 8), (8, tLd 2 0 9), (9, tLd 0 1 10), (10, tLd 2 0 11), (11, tGe 5 0 14)]
theorem V155_0 : Tkp B155_0 U155_0 := Tkc d_LA (Tkc d_LI (Tkc d_CV (Tkc d_ifeq (Tkc d_LA (Tkc d_LI (Tkc d_LA (Tkc d_Ge (Tkn))))))))
def U155_1 : List (Nat × zT) := [(14, tK 8 16), (16, tAI 17), (17, tCV 5 154 2), (20, tGo 29), (23, tLd 2 0 24), (24, tK (-2) 26), (26, tCV 5 99 1), (29, tRt 0)]
theorem V155_1 : Tkp B155_1 U155_1 := Tkc (d_K rfl) (Tkc d_AI (Tkc d_CV (Tkc d_Go (Tkc d_LA (Tkc (d_K rfl) (Tkc d_CV (Tkc d_RI (Tkn))))))))
def U155 : zP := [(11, U155_0), (29, U155_1)]
theorem V155 : Tkb P155 U155 := Tbc V155_0 (Tbc V155_1 (Tbn))
def U156_0 : List (Nat × zT) := [(0, tLd 2 0 1), (1, tCV 5 153 0), (4, tB1 3 9 7), (7, tK (-1) 8), (8, tRt 0), (9, tLd 2 0 10), (10, tLd 2 0 11), (11, tCV 5 142 0)]
theorem V156_0 : Tkp B156_0 U156_0 := Tkc d_LA (Tkc d_CV (Tkc d_ifne (Tkc (d_K rfl) (Tkc d_RI (Tkc d_LA (Tkc d_LA (Tkc d_CV (Tkn))))))))
def U156_1 : List (Nat × zT) := [(14, tCV 5 152 1), (17, tLd 2 0 18), (18, tLd 2 0 19), (19, tCV 5 142 0), (22, tLd 2 0 23), (23, tGe 5 0 26), (26, tK 3 27), (27, tAI 28)]
theorem V156_1 : Tkp B156_1 U156_1 := Tkc d_CV (Tkc d_LA (Tkc d_LA (Tkc d_CV (Tkc d_LA (Tkc d_Ge (Tkc (d_K rfl) (Tkc d_AI (Tkn))))))))
def U156_2 : List (Nat × zT) := [(28, tLd 2 0 29), (29, tGe 5 0 32), (32, tK 8 34), (34, tAI 35), (35, tLd 2 0 36), (36, tLd 2 0 37), (37, tGe 5 0 40), (40, tK 4 41)]
theorem V156_2 : Tkp B156_2 U156_2 := Tkc d_LA (Tkc d_Ge (Tkc (d_K rfl) (Tkc d_AI (Tkc d_LA (Tkc d_LA (Tkc d_Ge (Tkc (d_K rfl) (Tkn))))))))
def U156_3 : List (Nat × zT) := [(41, tAI 42), (42, tCV 5 126 1), (45, tCV 5 150 4), (48, tRt 0)]
theorem V156_3 : Tkp B156_3 U156_3 := Tkc d_AI (Tkc d_CV (Tkc d_CV (Tkc d_RI (Tkn))))
def U156 : zP := [(11, U156_0), (27, U156_1), (40, U156_2), (48, U156_3)]
theorem V156 : Tkb P156 U156 := Tbc V156_0 (Tbc V156_1 (Tbc V156_2 (Tbc V156_3 (Tbn))))
def U157_0 : List (Nat × zT) := [(0, tLd 2 0 1), (1, tLd 2 0 2), (2, tCV 5 142 0), (5, tCV 5 152 1), (8, tLd 2 0 9), (9, tLd 2 0 10), (10, tCV 5 142 0), (13, tLd 2 0 14)]
theorem V157_0 : Tkp B157_0 U157_0 := Tkc d_LA (Tkc d_LA (Tkc d_CV (Tkc d_CV (Tkc d_LA (Tkc d_LA (Tkc d_CV (Tkc d_LA (Tkn))))))))
def U157_1 : List (Nat × zT) := [(14, tGe 5 0 17), (17, tK 3 18), (18, tAI 19), (19, tLd 2 0 20), (20, tGe 5 0 23), (23, tK 8 25), (25, tAI 26), (26, tLd 2 0 27)]
theorem V157_1 : Tkp B157_1 U157_1 := Tkc d_Ge (Tkc (d_K rfl) (Tkc d_AI (Tkc d_LA (Tkc d_Ge (Tkc (d_K rfl) (Tkc d_AI (Tkc d_LA (Tkn))))))))
def U157_2 : List (Nat × zT) := [(27, tLd 2 0 28), (28, tGe 5 0 31), (31, tK 4 32), (32, tAI 33), (33, tCV 5 126 1), (36, tLd 0 1 37), (37, tCV 5 149 5), (40, tRV)]
theorem V157_2 : Tkp B157_2 U157_2 := Tkc d_LA (Tkc d_Ge (Tkc (d_K rfl) (Tkc d_AI (Tkc d_CV (Tkc d_LI (Tkc d_CV (Tkc d_RV (Tkn))))))))
def U157 : zP := [(13, U157_0), (26, U157_1), (40, U157_2)]
theorem V157 : Tkb P157 U157 := Tbc V157_0 (Tbc V157_1 (Tbc V157_2 (Tbn)))
def U158_0 : List (Nat × zT) := [(0, tLd 2 0 1), (1, tLd 0 1 2), (2, tCV 5 102 1), (5, tB1 3 15 8), (8, tLd 2 0 9), (9, tK (-2) 11), (11, tCV 5 99 1), (14, tRt 0)]
theorem V158_0 : Tkp B158_0 U158_0 := Tkc d_LA (Tkc d_LI (Tkc d_CV (Tkc d_ifne (Tkc d_LA (Tkc (d_K rfl) (Tkc d_CV (Tkc d_RI (Tkn))))))))
def U158_1 : List (Nat × zT) := [(15, tLd 2 0 16), (16, tLd 0 1 17), (17, tCV 5 143 1), (20, tB1 3 30 23), (23, tLd 2 0 24), (24, tK (-3) 26), (26, tCV 5 99 1), (29, tRt 0)]
theorem V158_1 : Tkp B158_1 U158_1 := Tkc d_LA (Tkc d_LI (Tkc d_CV (Tkc d_ifne (Tkc d_LA (Tkc (d_K rfl) (Tkc d_CV (Tkc d_RI (Tkn))))))))
def U158_2 : List (Nat × zT) := [(30, tLd 2 0 31), (31, tLd 0 1 32), (32, tCV 5 157 1), (35, tLd 2 0 36), (36, tGe 5 19 39), (39, tRt 0)]
theorem V158_2 : Tkp B158_2 U158_2 := Tkc d_LA (Tkc d_LI (Tkc d_CV (Tkc d_LA (Tkc d_Ge (Tkc d_RI (Tkn))))))
def U158 : zP := [(14, U158_0), (29, U158_1), (39, U158_2)]
theorem V158 : Tkb P158 U158 := Tbc V158_0 (Tbc V158_1 (Tbc V158_2 (Tbn)))
def U159_0 : List (Nat × zT) := [(0, tLd 2 0 1), (1, tLd 0 1 2), (2, tCV 5 102 1), (5, tB1 2 16 8), (8, tLd 2 0 9), (9, tLd 0 2 10), (10, tCV 5 103 1), (13, tB1 3 23 16)]
theorem V159_0 : Tkp B159_0 U159_0 := Tkc d_LA (Tkc d_LI (Tkc d_CV (Tkc d_ifeq (Tkc d_LA (Tkc d_LI (Tkc d_CV (Tkc d_ifne (Tkn))))))))
def U159_1 : List (Nat × zT) := [(16, tLd 2 0 17), (17, tK (-2) 19), (19, tCV 5 99 1), (22, tRt 0), (23, tLd 2 0 24), (24, tLd 0 1 25), (25, tCV 5 143 1), (28, tB1 3 38 31)]
theorem V159_1 : Tkp B159_1 U159_1 := Tkc d_LA (Tkc (d_K rfl) (Tkc d_CV (Tkc d_RI (Tkc d_LA (Tkc d_LI (Tkc d_CV (Tkc d_ifne (Tkn))))))))
def U159_2 : List (Nat × zT) := [(31, tLd 2 0 32), (32, tK (-3) 34), (34, tCV 5 99 1), (37, tRt 0), (38, tLd 2 0 39), (39, tLd 0 1 40), (40, tCV 5 157 1), (43, tLd 2 0 44)]
theorem V159_2 : Tkp B159_2 U159_2 := Tkc d_LA (Tkc (d_K rfl) (Tkc d_CV (Tkc d_RI (Tkc d_LA (Tkc d_LI (Tkc d_CV (Tkc d_LA (Tkn))))))))
def U159_3 : List (Nat × zT) := [(44, tLd 0 2 45), (45, tCV 5 129 1), (48, tLd 2 0 49), (49, tGe 5 18 52), (52, tLd 0 2 53), (53, tAI 54), (54, tAd 55), (55, tRt 0)]
theorem V159_3 : Tkp B159_3 U159_3 := Tkc d_LI (Tkc d_CV (Tkc d_LA (Tkc d_Ge (Tkc d_LI (Tkc d_AI (Tkc d_Ad (Tkc d_RI (Tkn))))))))
def U159 : zP := [(13, U159_0), (28, U159_1), (43, U159_2), (55, U159_3)]
theorem V159 : Tkb P159 U159 := Tbc V159_0 (Tbc V159_1 (Tbc V159_2 (Tbc V159_3 (Tbn))))
def U160_0 : List (Nat × zT) := [(0, tLd 0 1 1), (1, tB1 5 11 4), (4, tLd 2 0 5), (5, tK (-2) 7), (7, tCV 5 99 1), (10, tRt 0), (11, tLd 2 0 12), (12, tCV 5 153 0)]
theorem V160_0 : Tkp B160_0 U160_0 := Tkc d_LI (Tkc d_ifge (Tkc d_LA (Tkc (d_K rfl) (Tkc d_CV (Tkc d_RI (Tkc d_LA (Tkc d_CV (Tkn))))))))
def U160_1 : List (Nat × zT) := [(15, tB1 2 25 18), (18, tLd 2 0 19), (19, tCV 5 142 0), (22, tGo 26), (25, tK 0 26), (26, tSt false 0 2 27), (27, tLd 2 0 28), (28, tGe 5 0 31)]
theorem V160_1 : Tkp B160_1 U160_1 := Tkc d_ifeq (Tkc d_LA (Tkc d_CV (Tkc d_Go (Tkc (d_K rfl) (Tkc (d_SI (i := 2) (nL := 8) (n := 27) rfl) (Tkc d_LA (Tkc d_Ge (Tkn))))))))
def U160_2 : List (Nat × zT) := [(31, tK 3 32), (32, tAI 33), (33, tSt false 0 3 34), (34, tLd 2 0 35), (35, tGe 5 0 38), (38, tK 8 40), (40, tAI 41), (41, tSt false 0 4 43)]
theorem V160_2 : Tkp B160_2 U160_2 := Tkc (d_K rfl) (Tkc d_AI (Tkc (d_SI (i := 3) (nL := 8) (n := 34) rfl) (Tkc d_LA (Tkc d_Ge (Tkc (d_K rfl) (Tkc d_AI (Tkc (d_SI (i := 4) (nL := 8) (n := 43) rfl) (Tkn))))))))
def U160_3 : List (Nat × zT) := [(43, tLd 2 0 44), (44, tLd 0 2 45), (45, tCV 5 152 1), (48, tK 0 49), (49, tSt false 0 5 51), (51, tLd 0 2 52), (52, tB1 2 185 55), (55, tLd 2 0 56)]
theorem V160_3 : Tkp B160_3 U160_3 := Tkc d_LA (Tkc d_LI (Tkc d_CV (Tkc (d_K rfl) (Tkc (d_SI (i := 5) (nL := 8) (n := 51) rfl) (Tkc d_LI (Tkc d_ifeq (Tkc d_LA (Tkn))))))))
def U160_4 : List (Nat × zT) := [(56, tCV 5 125 0), (59, tLd 2 0 60), (60, tGe 5 12 63), (63, tLd 2 0 64), (64, tGe 5 0 67), (67, tK 0 68), (68, tAI 69), (69, tLd 0 2 70)]
theorem V160_4 : Tkp B160_4 U160_4 := Tkc d_CV (Tkc d_LA (Tkc d_Ge (Tkc d_LA (Tkc d_Ge (Tkc (d_K rfl) (Tkc d_AI (Tkc d_LI (Tkn))))))))
def U160_5 : List (Nat × zT) := [(70, tCS 98 1), (73, tSb 74), (74, tAI 75), (75, tSt false 0 6 77), (77, tLd 2 0 78), (78, tLd 0 2 79), (79, tCV 5 151 1), (82, tLd 2 0 83)]
theorem V160_5 : Tkp B160_5 U160_5 := Tkc d_CS (Tkc d_Sb (Tkc d_AI (Tkc (d_SI (i := 6) (nL := 8) (n := 77) rfl) (Tkc d_LA (Tkc d_LI (Tkc d_CV (Tkc d_LA (Tkn))))))))
def U160_6 : List (Nat × zT) := [(83, tLd 0 2 84), (84, tLd 0 3 85), (85, tLd 0 4 87), (87, tLd 0 6 89), (89, tCV 5 150 4), (92, tSt false 0 7 94), (94, tLd 2 0 95), (95, tLd 0 2 96)]
theorem V160_6 : Tkp B160_6 U160_6 := Tkc d_LI (Tkc d_LI (Tkc d_LI (Tkc d_LI (Tkc d_CV (Tkc (d_SI (i := 7) (nL := 8) (n := 94) rfl) (Tkc d_LA (Tkc d_LI (Tkn))))))))
def U160_7 : List (Nat × zT) := [(96, tLd 0 3 97), (97, tLd 0 4 99), (99, tLd 0 6 101), (101, tLd 0 7 103), (103, tCV 5 149 5), (106, tLd 0 5 108), (108, tLd 0 1 109), (109, tB2 3 137 112)]
theorem V160_7 : Tkp B160_7 U160_7 := Tkc d_LI (Tkc d_LI (Tkc d_LI (Tkc d_LI (Tkc d_CV (Tkc d_LI (Tkc d_LI (Tkc d_icne (Tkn))))))))
def U160_8 : List (Nat × zT) := [(112, tK 10 114), (114, tLd 0 7 116), (116, tI2 gxm 117), (117, tLd 2 0 118), (118, tGe 5 19 121), (121, tK (-1) 122), (122, tB2 3 129 125), (125, tK 0 126)]
theorem V160_8 : Tkp B160_8 U160_8 := Tkc (d_K rfl) (Tkc d_LI (Tkc d_mul (Tkc d_LA (Tkc d_Ge (Tkc (d_K rfl) (Tkc d_icne (Tkc (d_K rfl) (Tkn))))))))
def U160_9 : List (Nat × zT) := [(126, tGo 135), (129, tLd 2 0 130), (130, tGe 5 19 133), (133, tK 1 134), (134, tAd 135), (135, tAd 136), (136, tRt 0), (137, tIn 5 1 140)]
theorem V160_9 : Tkp B160_9 U160_9 := Tkc d_Go (Tkc d_LA (Tkc d_Ge (Tkc (d_K rfl) (Tkc d_Ad (Tkc d_Ad (Tkc d_RI (Tkc (d_In (i := 5) (x := 1) (nL := 8) (n := 140) (c := 1) rfl rfl) (Tkn))))))))
def U160_10 : List (Nat × zT) := [(140, tLd 2 0 141), (141, tGe 5 19 144), (144, tK (-1) 145), (145, tB2 3 162 148), (148, tLd 0 2 149), (149, tK 1 150), (150, tLd 0 7 152), (152, tI2 gxl 153)]
theorem V160_10 : Tkp B160_10 U160_10 := Tkc d_LA (Tkc d_Ge (Tkc (d_K rfl) (Tkc d_icne (Tkc d_LI (Tkc (d_K rfl) (Tkc d_LI (Tkc d_shl (Tkn))))))))
def U160_11 : List (Nat × zT) := [(153, tK (-1) 154), (154, tI2 gxx 155), (155, tI2 gxa 156), (156, tSt false 0 2 157), (157, tK 0 158), (158, tSt false 0 3 159), (159, tGo 182), (162, tLd 0 3 163)]
theorem V160_11 : Tkp B160_11 U160_11 := Tkc (d_K rfl) (Tkc d_xor (Tkc d_and (Tkc (d_SI (i := 2) (nL := 8) (n := 157) rfl) (Tkc (d_K rfl) (Tkc (d_SI (i := 3) (nL := 8) (n := 159) rfl) (Tkc d_Go (Tkc d_LI (Tkn))))))))
def U160_12 : List (Nat × zT) := [(163, tK 1 164), (164, tLd 0 7 166), (166, tI2 gxl 167), (167, tI2 gxo 168), (168, tSt false 0 3 169), (169, tLd 0 4 171), (171, tK 1 172), (172, tLd 2 0 173)]
theorem V160_12 : Tkp B160_12 U160_12 := Tkc (d_K rfl) (Tkc d_LI (Tkc d_shl (Tkc d_or (Tkc (d_SI (i := 3) (nL := 8) (n := 169) rfl) (Tkc d_LI (Tkc (d_K rfl) (Tkc d_LA (Tkn))))))))
def U160_13 : List (Nat × zT) := [(173, tGe 5 19 176), (176, tI2 gxl 177), (177, tK (-1) 178), (178, tI2 gxx 179), (179, tI2 gxa 180), (180, tSt false 0 4 182), (182, tGo 51), (185, tK (-1) 186)]
theorem V160_13 : Tkp B160_13 U160_13 := Tkc d_Ge (Tkc d_shl (Tkc (d_K rfl) (Tkc d_xor (Tkc d_and (Tkc (d_SI (i := 4) (nL := 8) (n := 182) rfl) (Tkc d_Go (Tkc (d_K rfl) (Tkn))))))))
def U160_14 : List (Nat × zT) := [(186, tRt 0)]
theorem V160_14 : Tkp B160_14 U160_14 := Tkc d_RI (Tkn)
def U160 : zP := [(12, U160_0), (28, U160_1), (41, U160_2), (55, U160_3), (69, U160_4), (82, U160_5), (95, U160_6), (109, U160_7), (125, U160_8), (137, U160_9), (152, U160_10), (162, U160_11), (172, U160_12), (185, U160_13), (186, U160_14)]
theorem V160 : Tkb P160 U160 := Tbc V160_0 (Tbc V160_1 (Tbc V160_2 (Tbc V160_3 (Tbc V160_4 (Tbc V160_5 (Tbc V160_6 (Tbc V160_7 (Tbc V160_8 (Tbc V160_9 (Tbc V160_10 (Tbc V160_11 (Tbc V160_12 (Tbc V160_13 (Tbc V160_14 (Tbn)))))))))))))))
def U161_0 : List (Nat × zT) := [(0, tLd 2 0 1), (1, tLd 0 1 2), (2, tCV 5 103 1), (5, tB1 2 16 8), (8, tLd 2 0 9), (9, tLd 0 1 10), (10, tCV 5 162 1), (13, tGo 22)]
theorem V161_0 : Tkp B161_0 U161_0 := Tkc d_LA (Tkc d_LI (Tkc d_CV (Tkc d_ifeq (Tkc d_LA (Tkc d_LI (Tkc d_CV (Tkc d_Go (Tkn))))))))
def U161_1 : List (Nat × zT) := [(16, tLd 2 0 17), (17, tK (-2) 19), (19, tCV 5 99 1), (22, tRt 0)]
theorem V161_1 : Tkp B161_1 U161_1 := Tkc d_LA (Tkc (d_K rfl) (Tkc d_CV (Tkc d_RI (Tkn))))
def U161 : zP := [(13, U161_0), (22, U161_1)]
theorem V161 : Tkb P161 U161 := Tbc V161_0 (Tbc V161_1 (Tbn))
def U162_0 : List (Nat × zT) := [(0, tLd 2 0 1), (1, tLd 0 1 2), (2, tCV 5 129 1), (5, tSt false 0 2 6), (6, tLd 2 0 7), (7, tCV 5 153 0), (10, tB1 2 20 13), (13, tLd 2 0 14)]
theorem V162_0 : Tkp B162_0 U162_0 := Tkc d_LA (Tkc d_LI (Tkc d_CV (Tkc (d_SI (i := 2) (nL := 9) (n := 6) rfl) (Tkc d_LA (Tkc d_CV (Tkc d_ifeq (Tkc d_LA (Tkn))))))))
def U162_1 : List (Nat × zT) := [(14, tCV 5 142 0), (17, tGo 21), (20, tK 0 21), (21, tSt false 0 3 22), (22, tLd 2 0 23), (23, tGe 5 0 26), (26, tK 3 27), (27, tAI 28)]
theorem V162_1 : Tkp B162_1 U162_1 := Tkc d_CV (Tkc d_Go (Tkc (d_K rfl) (Tkc (d_SI (i := 3) (nL := 9) (n := 22) rfl) (Tkc d_LA (Tkc d_Ge (Tkc (d_K rfl) (Tkc d_AI (Tkn))))))))
def U162_2 : List (Nat × zT) := [(28, tSt false 0 4 30), (30, tLd 2 0 31), (31, tCV 5 125 0), (34, tLd 0 3 35), (35, tB1 2 170 38), (38, tLd 2 0 39), (39, tGe 5 12 42), (42, tLd 2 0 43)]
theorem V162_2 : Tkp B162_2 U162_2 := Tkc (d_SI (i := 4) (nL := 9) (n := 30) rfl) (Tkc d_LA (Tkc d_CV (Tkc d_LI (Tkc d_ifeq (Tkc d_LA (Tkc d_Ge (Tkc d_LA (Tkn))))))))
def U162_3 : List (Nat × zT) := [(43, tGe 5 0 46), (46, tK 0 47), (47, tAI 48), (48, tLd 0 3 49), (49, tCS 98 1), (52, tSb 53), (53, tAI 54), (54, tSt false 0 5 56)]
theorem V162_3 : Tkp B162_3 U162_3 := Tkc d_Ge (Tkc (d_K rfl) (Tkc d_AI (Tkc d_LI (Tkc d_CS (Tkc d_Sb (Tkc d_AI (Tkc (d_SI (i := 5) (nL := 9) (n := 56) rfl) (Tkn))))))))
def U162_4 : List (Nat × zT) := [(56, tK (-1) 57), (57, tSt false 0 6 59), (59, tK 0 60), (60, tSt false 0 7 62), (62, tLd 0 7 64), (64, tK 6 66), (66, tB2 5 135 69), (69, tLd 0 3 70)]
theorem V162_4 : Tkp B162_4 U162_4 := Tkc (d_K rfl) (Tkc (d_SI (i := 6) (nL := 9) (n := 59) rfl) (Tkc (d_K rfl) (Tkc (d_SI (i := 7) (nL := 9) (n := 62) rfl) (Tkc d_LI (Tkc (d_K rfl) (Tkc d_icge (Tkc d_LI (Tkn))))))))
def U162_5 : List (Nat × zT) := [(70, tLd 0 4 72), (72, tK (-1) 73), (73, tI2 gxx 74), (74, tI2 gxa 75), (75, tLd 0 7 77), (77, tCS 97 2), (80, tB1 2 112 83), (83, tLd 0 6 85)]
theorem V162_5 : Tkp B162_5 U162_5 := Tkc d_LI (Tkc (d_K rfl) (Tkc d_xor (Tkc d_and (Tkc d_LI (Tkc d_CS (Tkc d_ifeq (Tkc d_LI (Tkn))))))))
def U162_6 : List (Nat × zT) := [(85, tK (-1) 86), (86, tB2 2 108 89), (89, tLd 2 0 90), (90, tLd 0 5 92), (92, tLd 0 7 94), (94, tCV 5 104 2), (97, tLd 2 0 98), (98, tLd 0 5 100)]
theorem V162_6 : Tkp B162_6 U162_6 := Tkc (d_K rfl) (Tkc d_iceq (Tkc d_LA (Tkc d_LI (Tkc d_LI (Tkc d_CV (Tkc d_LA (Tkc d_LI (Tkn))))))))
def U162_7 : List (Nat × zT) := [(100, tLd 0 6 102), (102, tCV 5 104 2), (105, tB2 1 112 108), (108, tK 1 109), (109, tGo 113), (112, tK 0 113), (113, tSt false 0 8 115), (115, tLd 0 8 117)]
theorem V162_7 : Tkp B162_7 U162_7 := Tkc d_LI (Tkc d_CV (Tkc d_icle (Tkc (d_K rfl) (Tkc d_Go (Tkc (d_K rfl) (Tkc (d_SI (i := 8) (nL := 9) (n := 115) rfl) (Tkc d_LI (Tkn))))))))
def U162_8 : List (Nat × zT) := [(117, tB1 2 125 120), (120, tLd 0 7 122), (122, tGo 127), (125, tLd 0 6 127), (127, tSt false 0 6 129), (129, tIn 7 1 132), (132, tGo 62), (135, tLd 0 2 136)]
theorem V162_8 : Tkp B162_8 U162_8 := Tkc d_ifeq (Tkc d_LI (Tkc d_Go (Tkc d_LI (Tkc (d_SI (i := 6) (nL := 9) (n := 129) rfl) (Tkc (d_In (i := 7) (x := 1) (nL := 9) (n := 132) (c := 1) rfl rfl) (Tkc d_Go (Tkc d_LI (Tkn))))))))
def U162_9 : List (Nat × zT) := [(136, tLd 0 5 138), (138, tLd 0 1 139), (139, tB2 3 152 142), (142, tLd 2 0 143), (143, tLd 0 1 144), (144, tLd 0 6 146), (146, tCV 5 104 2), (149, tGo 153)]
theorem V162_9 : Tkp B162_9 U162_9 := Tkc d_LI (Tkc d_LI (Tkc d_icne (Tkc d_LA (Tkc d_LI (Tkc d_LI (Tkc d_CV (Tkc d_Go (Tkn))))))))
def U162_10 : List (Nat × zT) := [(152, tK 0 153), (153, tAd 154), (154, tSt false 0 2 155), (155, tLd 0 3 156), (156, tK 1 157), (157, tLd 0 6 159), (159, tI2 gxl 160), (160, tK (-1) 161)]
theorem V162_10 : Tkp B162_10 U162_10 := Tkc (d_K rfl) (Tkc d_Ad (Tkc (d_SI (i := 2) (nL := 9) (n := 155) rfl) (Tkc d_LI (Tkc (d_K rfl) (Tkc d_LI (Tkc d_shl (Tkc (d_K rfl) (Tkn))))))))
def U162_11 : List (Nat × zT) := [(161, tI2 gxx 162), (162, tI2 gxa 163), (163, tSt false 0 3 164), (164, tK 0 165), (165, tSt false 0 4 167), (167, tGo 34), (170, tLd 0 2 171), (171, tRt 0)]
theorem V162_11 : Tkp B162_11 U162_11 := Tkc d_xor (Tkc d_and (Tkc (d_SI (i := 3) (nL := 9) (n := 164) rfl) (Tkc (d_K rfl) (Tkc (d_SI (i := 4) (nL := 9) (n := 167) rfl) (Tkc d_Go (Tkc d_LI (Tkc d_RI (Tkn))))))))
def U162 : zP := [(13, U162_0), (27, U162_1), (42, U162_2), (54, U162_3), (69, U162_4), (83, U162_5), (98, U162_6), (115, U162_7), (135, U162_8), (149, U162_9), (160, U162_10), (171, U162_11)]
theorem V162 : Tkb P162 U162 := Tbc V162_0 (Tbc V162_1 (Tbc V162_2 (Tbc V162_3 (Tbc V162_4 (Tbc V162_5 (Tbc V162_6 (Tbc V162_7 (Tbc V162_8 (Tbc V162_9 (Tbc V162_10 (Tbc V162_11 (Tbn))))))))))))
def U163_0 : List (Nat × zT) := [(0, tLd 2 0 1), (1, tLd 0 1 2), (2, tCV 5 103 1), (5, tB1 2 20 8), (8, tLd 0 2 9), (9, tIL 10), (10, tKL 0 11), (11, tKL 2 14)]
theorem V163_0 : Tkp B163_0 U163_0 := Tkc d_LA (Tkc d_LI (Tkc d_CV (Tkc d_ifeq (Tkc d_LI (Tkc d_IL (Tkc (d_KL rfl) (Tkc (d_KLc rfl) (Tkn))))))))
def U163_1 : List (Nat × zT) := [(14, tCS 96 3), (17, tB1 3 27 20), (20, tLd 2 0 21), (21, tK (-2) 23), (23, tCV 5 99 1), (26, tRt 0), (27, tLd 2 0 28), (28, tLd 0 1 29)]
theorem V163_1 : Tkp B163_1 U163_1 := Tkc d_CS (Tkc d_ifne (Tkc d_LA (Tkc (d_K rfl) (Tkc d_CV (Tkc d_RI (Tkc d_LA (Tkc d_LI (Tkn))))))))
def U163_2 : List (Nat × zT) := [(29, tLd 0 2 30), (30, tB1 3 49 33), (33, tLd 2 0 34), (34, tGe 5 0 37), (37, tK 8 39), (39, tAI 40), (40, tK 1 41), (41, tLd 0 1 42)]
theorem V163_2 : Tkp B163_2 U163_2 := Tkc d_LI (Tkc d_ifne (Tkc d_LA (Tkc d_Ge (Tkc (d_K rfl) (Tkc d_AI (Tkc (d_K rfl) (Tkc d_LI (Tkn))))))))
def U163_3 : List (Nat × zT) := [(42, tI2 gxl 43), (43, tK (-1) 44), (44, tI2 gxx 45), (45, tI2 gxa 46), (46, tGo 68), (49, tLd 0 2 50), (50, tK 1 51), (51, tB2 3 58 54)]
theorem V163_3 : Tkp B163_3 U163_3 := Tkc d_shl (Tkc (d_K rfl) (Tkc d_xor (Tkc d_and (Tkc d_Go (Tkc d_LI (Tkc (d_K rfl) (Tkc d_icne (Tkn))))))))
def U163_4 : List (Nat × zT) := [(54, tK 0 55), (55, tGo 68), (58, tK 1 59), (59, tLd 2 0 60), (60, tGe 5 0 63), (63, tK 1 64), (64, tAI 65), (65, tI2 gxl 66)]
theorem V163_4 : Tkp B163_4 U163_4 := Tkc (d_K rfl) (Tkc d_Go (Tkc (d_K rfl) (Tkc d_LA (Tkc d_Ge (Tkc (d_K rfl) (Tkc d_AI (Tkc d_shl (Tkn))))))))
def U163_5 : List (Nat × zT) := [(66, tK 1 67), (67, tSb 68), (68, tCV 5 154 2), (71, tRt 0)]
theorem V163_5 : Tkp B163_5 U163_5 := Tkc (d_K rfl) (Tkc d_Sb (Tkc d_CV (Tkc d_RI (Tkn))))
def U163 : zP := [(11, U163_0), (28, U163_1), (41, U163_2), (51, U163_3), (65, U163_4), (71, U163_5)]
theorem V163 : Tkb P163 U163 := Tbc V163_0 (Tbc V163_1 (Tbc V163_2 (Tbc V163_3 (Tbc V163_4 (Tbc V163_5 (Tbn))))))
def U164_0 : List (Nat × zT) := [(0, tLd 2 0 1), (1, tGe 5 1 4), (4, tB1 3 14 7), (7, tLd 2 0 8), (8, tK (-3) 10), (10, tCV 5 99 1), (13, tRt 0), (14, tLd 2 0 15)]
theorem V164_0 : Tkp B164_0 U164_0 := Tkc d_LA (Tkc d_Ge (Tkc d_ifne (Tkc d_LA (Tkc (d_K rfl) (Tkc d_CV (Tkc d_RI (Tkc d_LA (Tkn))))))))
def U164_1 : List (Nat × zT) := [(15, tDu 16), (16, tGe 5 1 19), (19, tK 1 20), (20, tSb 21), (21, tPI 5 1 24), (24, tLd 2 0 25), (25, tK 55 27), (27, tK 55 29)]
theorem V164_1 : Tkp B164_1 U164_1 := Tkc d_Du (Tkc d_Ge (Tkc (d_K rfl) (Tkc d_Sb (Tkc d_PI (Tkc d_LA (Tkc (d_K rfl) (Tkc (d_K rfl) (Tkn))))))))
def U164_2 : List (Nat × zT) := [(29, tLd 2 0 30), (30, tGe 5 1 33), (33, tI2 gxm 34), (34, tAd 35), (35, tK 0 36), (36, tCV 5 100 2), (39, tLd 2 0 40), (40, tGe 5 1 43)]
theorem V164_2 : Tkp B164_2 U164_2 := Tkc d_LA (Tkc d_Ge (Tkc d_mul (Tkc d_Ad (Tkc (d_K rfl) (Tkc d_CV (Tkc d_LA (Tkc d_Ge (Tkn))))))))
def U164_3 : List (Nat × zT) := [(43, tRt 0)]
theorem V164_3 : Tkp B164_3 U164_3 := Tkc d_RI (Tkn)
def U164 : zP := [(14, U164_0), (27, U164_1), (40, U164_2), (43, U164_3)]
theorem V164 : Tkb P164 U164 := Tbc V164_0 (Tbc V164_1 (Tbc V164_2 (Tbc V164_3 (Tbn))))
def U165_0 : List (Nat × zT) := [(0, tLd 0 1 1), (1, tTb [52, 52, 52, 59, 64, 71, 78, 85, 92] 103), (52, tLd 2 0 53), (53, tGe 5 2 56), (56, tLd 0 1 57), (57, tAI 58), (58, tRt 0), (59, tLd 2 0 60)]
theorem V165_0 : Tkp B165_0 U165_0 := Tkc d_LI (Tkc d_Tb (Tkc d_LA (Tkc d_Ge (Tkc d_LI (Tkc d_AI (Tkc d_RI (Tkc d_LA (Tkn))))))))
def U165_1 : List (Nat × zT) := [(60, tGe 5 4 63), (63, tRt 0), (64, tLd 2 0 65), (65, tGe 5 0 68), (68, tK 0 69), (69, tAI 70), (70, tRt 0), (71, tLd 2 0 72)]
theorem V165_1 : Tkp B165_1 U165_1 := Tkc d_Ge (Tkc d_RI (Tkc d_LA (Tkc d_Ge (Tkc (d_K rfl) (Tkc d_AI (Tkc d_RI (Tkc d_LA (Tkn))))))))
def U165_2 : List (Nat × zT) := [(72, tGe 5 0 75), (75, tK 1 76), (76, tAI 77), (77, tRt 0), (78, tLd 2 0 79), (79, tGe 5 0 82), (82, tK 2 83), (83, tAI 84)]
theorem V165_2 : Tkp B165_2 U165_2 := Tkc d_Ge (Tkc (d_K rfl) (Tkc d_AI (Tkc d_RI (Tkc d_LA (Tkc d_Ge (Tkc (d_K rfl) (Tkc d_AI (Tkn))))))))
def U165_3 : List (Nat × zT) := [(84, tRt 0), (85, tLd 2 0 86), (86, tGe 5 0 89), (89, tK 4 90), (90, tAI 91), (91, tRt 0), (92, tLd 2 0 93), (93, tGe 5 0 96)]
theorem V165_3 : Tkp B165_3 U165_3 := Tkc d_RI (Tkc d_LA (Tkc d_Ge (Tkc (d_K rfl) (Tkc d_AI (Tkc d_RI (Tkc d_LA (Tkc d_Ge (Tkn))))))))
def U165_4 : List (Nat × zT) := [(96, tK 8 98), (98, tAI 99), (99, tCS 98 1), (102, tRt 0), (103, tLd 2 0 104), (104, tGe 5 1 107), (107, tRt 0)]
theorem V165_4 : Tkp B165_4 U165_4 := Tkc (d_K rfl) (Tkc d_AI (Tkc d_CS (Tkc d_RI (Tkc d_LA (Tkc d_Ge (Tkc d_RI (Tkn)))))))
def U165 : zP := [(59, U165_0), (71, U165_1), (83, U165_2), (93, U165_3), (107, U165_4)]
theorem V165 : Tkb P165 U165 := Tbc V165_0 (Tbc V165_1 (Tbc V165_2 (Tbc V165_3 (Tbc V165_4 (Tbn)))))
def U166_0 : List (Nat × zT) := [(0, tLd 0 1 1), (1, tIL 2), (2, tKL 0 3), (3, tKL 9 6), (6, tCS 96 3), (9, tB1 2 20 12), (12, tLd 2 0 13), (13, tLd 0 1 14)]
theorem V166_0 : Tkp B166_0 U166_0 := Tkc d_LI (Tkc d_IL (Tkc (d_KL rfl) (Tkc (d_KLc rfl) (Tkc d_CS (Tkc d_ifeq (Tkc d_LA (Tkc d_LI (Tkn))))))))
def U166_1 : List (Nat × zT) := [(14, tCV 5 165 1), (17, tGo 26), (20, tLd 2 0 21), (21, tK (-2) 23), (23, tCV 5 99 1), (26, tRt 0)]
theorem V166_1 : Tkp B166_1 U166_1 := Tkc d_CV (Tkc d_Go (Tkc d_LA (Tkc (d_K rfl) (Tkc d_CV (Tkc d_RI (Tkn))))))
def U166 : zP := [(13, U166_0), (26, U166_1)]
theorem V166 : Tkb P166 U166 := Tbc V166_0 (Tbc V166_1 (Tbn))
def U167_0 : List (Nat × zT) := [(0, tKL 2269 3), (3, tSt true 1 1 4), (4, tK 0 5), (5, tSt false 0 3 6), (6, tLd 0 3 7), (7, tK 10 9), (9, tB2 5 31 12), (12, tKL 31 15)]
theorem V167_0 : Tkp B167_0 U167_0 := Tkc (d_KLc rfl) (Tkc (d_SL (i := 1) (nL := 5) (n := 4) rfl) (Tkc (d_K rfl) (Tkc (d_SI (i := 3) (nL := 5) (n := 6) rfl) (Tkc d_LI (Tkc (d_K rfl) (Tkc d_icge (Tkc (d_KLc rfl) (Tkn))))))))
def U167_1 : List (Nat × zT) := [(15, tLd 1 1 16), (16, tL2 17), (17, tLd 2 0 18), (18, tLd 0 3 19), (19, tCV 5 165 1), (22, tIL 23), (23, tL2 24), (24, tSt true 1 1 25)]
theorem V167_1 : Tkp B167_1 U167_1 := Tkc d_LL (Tkc d_L2 (Tkc d_LA (Tkc d_LI (Tkc d_CV (Tkc d_IL (Tkc d_L2 (Tkc (d_SL (i := 1) (nL := 5) (n := 25) rfl) (Tkn))))))))
def U167_2 : List (Nat × zT) := [(25, tIn 3 1 28), (28, tGo 6), (31, tK 0 32), (32, tSt false 0 3 33), (33, tLd 0 3 34), (34, tLd 2 0 35), (35, tGe 5 0 38), (38, tK 0 39)]
theorem V167_2 : Tkp B167_2 U167_2 := Tkc (d_In (i := 3) (x := 1) (nL := 5) (n := 28) (c := 1) rfl rfl) (Tkc d_Go (Tkc (d_K rfl) (Tkc (d_SI (i := 3) (nL := 5) (n := 33) rfl) (Tkc d_LI (Tkc d_LA (Tkc d_Ge (Tkc (d_K rfl) (Tkn))))))))
def U167_3 : List (Nat × zT) := [(39, tAI 40), (40, tB2 5 79 43), (43, tK 0 44), (44, tSt false 0 4 46), (46, tLd 0 4 48), (48, tK 4 49), (49, tB2 5 73 52), (52, tKL 31 55)]
theorem V167_3 : Tkp B167_3 U167_3 := Tkc d_AI (Tkc d_icge (Tkc (d_K rfl) (Tkc (d_SI (i := 4) (nL := 5) (n := 46) rfl) (Tkc d_LI (Tkc (d_K rfl) (Tkc d_icge (Tkc (d_KLc rfl) (Tkn))))))))
def U167_4 : List (Nat × zT) := [(55, tLd 1 1 56), (56, tL2 57), (57, tLd 2 0 58), (58, tLd 0 3 59), (59, tLd 0 4 61), (61, tCV 5 131 2), (64, tIL 65), (65, tL2 66)]
theorem V167_4 : Tkp B167_4 U167_4 := Tkc d_LL (Tkc d_L2 (Tkc d_LA (Tkc d_LI (Tkc d_LI (Tkc d_CV (Tkc d_IL (Tkc d_L2 (Tkn))))))))
def U167_5 : List (Nat × zT) := [(66, tSt true 1 1 67), (67, tIn 4 1 70), (70, tGo 46), (73, tIn 3 1 76), (76, tGo 33), (79, tK 0 80), (80, tSt false 0 3 81), (81, tLd 0 3 82)]
theorem V167_5 : Tkp B167_5 U167_5 := Tkc (d_SL (i := 1) (nL := 5) (n := 67) rfl) (Tkc (d_In (i := 4) (x := 1) (nL := 5) (n := 70) (c := 1) rfl rfl) (Tkc d_Go (Tkc (d_In (i := 3) (x := 1) (nL := 5) (n := 76) (c := 1) rfl rfl) (Tkc d_Go (Tkc (d_K rfl) (Tkc (d_SI (i := 3) (nL := 5) (n := 81) rfl) (Tkc d_LI (Tkn))))))))
def U167_6 : List (Nat × zT) := [(82, tLd 2 0 83), (83, tGe 5 0 86), (86, tK 1 87), (87, tAI 88), (88, tB2 5 196 91), (91, tK 0 92), (92, tSt false 0 4 94), (94, tLd 0 4 96)]
theorem V167_6 : Tkp B167_6 U167_6 := Tkc d_LA (Tkc d_Ge (Tkc (d_K rfl) (Tkc d_AI (Tkc d_icge (Tkc (d_K rfl) (Tkc (d_SI (i := 4) (nL := 5) (n := 94) rfl) (Tkc d_LI (Tkn))))))))
def U167_7 : List (Nat × zT) := [(96, tK 6 98), (98, tB2 5 122 101), (101, tKL 31 104), (104, tLd 1 1 105), (105, tL2 106), (106, tLd 2 0 107), (107, tLd 0 3 108), (108, tLd 0 4 110)]
theorem V167_7 : Tkp B167_7 U167_7 := Tkc (d_K rfl) (Tkc d_icge (Tkc (d_KLc rfl) (Tkc d_LL (Tkc d_L2 (Tkc d_LA (Tkc d_LI (Tkc d_LI (Tkn))))))))
def U167_8 : List (Nat × zT) := [(110, tCV 5 133 2), (113, tIL 114), (114, tL2 115), (115, tSt true 1 1 116), (116, tIn 4 1 119), (119, tGo 94), (122, tK 0 123), (123, tSt false 0 4 125)]
theorem V167_8 : Tkp B167_8 U167_8 := Tkc d_CV (Tkc d_IL (Tkc d_L2 (Tkc (d_SL (i := 1) (nL := 5) (n := 116) rfl) (Tkc (d_In (i := 4) (x := 1) (nL := 5) (n := 119) (c := 1) rfl rfl) (Tkc d_Go (Tkc (d_K rfl) (Tkc (d_SI (i := 4) (nL := 5) (n := 125) rfl) (Tkn))))))))
def U167_9 : List (Nat × zT) := [(125, tLd 0 4 127), (127, tLd 2 0 128), (128, tGe 5 0 131), (131, tK 0 132), (132, tAI 133), (133, tB2 5 157 136), (136, tKL 31 139), (139, tLd 1 1 140)]
theorem V167_9 : Tkp B167_9 U167_9 := Tkc d_LI (Tkc d_LA (Tkc d_Ge (Tkc (d_K rfl) (Tkc d_AI (Tkc d_icge (Tkc (d_KLc rfl) (Tkc d_LL (Tkn))))))))
def U167_10 : List (Nat × zT) := [(140, tL2 141), (141, tLd 2 0 142), (142, tLd 0 3 143), (143, tLd 0 4 145), (145, tCV 5 104 2), (148, tIL 149), (149, tL2 150), (150, tSt true 1 1 151)]
theorem V167_10 : Tkp B167_10 U167_10 := Tkc d_L2 (Tkc d_LA (Tkc d_LI (Tkc d_LI (Tkc d_CV (Tkc d_IL (Tkc d_L2 (Tkc (d_SL (i := 1) (nL := 5) (n := 151) rfl) (Tkn))))))))
def U167_11 : List (Nat × zT) := [(151, tIn 4 1 154), (154, tGo 125), (157, tKL 31 160), (160, tLd 1 1 161), (161, tL2 162), (162, tLd 2 0 163), (163, tLd 0 3 164), (164, tLd 2 0 165)]
theorem V167_11 : Tkp B167_11 U167_11 := Tkc (d_In (i := 4) (x := 1) (nL := 5) (n := 154) (c := 1) rfl rfl) (Tkc d_Go (Tkc (d_KLc rfl) (Tkc d_LL (Tkc d_L2 (Tkc d_LA (Tkc d_LI (Tkc d_LA (Tkn))))))))
def U167_12 : List (Nat × zT) := [(165, tGe 5 0 168), (168, tK 8 170), (170, tAI 171), (171, tCV 5 154 2), (174, tIL 175), (175, tL2 176), (176, tSt true 1 1 177), (177, tKL 31 180)]
theorem V167_12 : Tkp B167_12 U167_12 := Tkc d_Ge (Tkc (d_K rfl) (Tkc d_AI (Tkc d_CV (Tkc d_IL (Tkc d_L2 (Tkc (d_SL (i := 1) (nL := 5) (n := 177) rfl) (Tkc (d_KLc rfl) (Tkn))))))))
def U167_13 : List (Nat × zT) := [(180, tLd 1 1 181), (181, tL2 182), (182, tLd 2 0 183), (183, tLd 0 3 184), (184, tCV 5 162 1), (187, tIL 188), (188, tL2 189), (189, tSt true 1 1 190)]
theorem V167_13 : Tkp B167_13 U167_13 := Tkc d_LL (Tkc d_L2 (Tkc d_LA (Tkc d_LI (Tkc d_CV (Tkc d_IL (Tkc d_L2 (Tkc (d_SL (i := 1) (nL := 5) (n := 190) rfl) (Tkn))))))))
def U167_14 : List (Nat × zT) := [(190, tIn 3 1 193), (193, tGo 81), (196, tLd 1 1 197), (197, tRt 1)]
theorem V167_14 : Tkp B167_14 U167_14 := Tkc (d_In (i := 3) (x := 1) (nL := 5) (n := 193) (c := 1) rfl rfl) (Tkc d_Go (Tkc d_LL (Tkc d_RL (Tkn))))
def U167 : zP := [(12, U167_0), (24, U167_1), (38, U167_2), (52, U167_3), (65, U167_4), (81, U167_5), (94, U167_6), (108, U167_7), (123, U167_8), (139, U167_9), (150, U167_10), (164, U167_11), (177, U167_12), (189, U167_13), (197, U167_14)]
theorem V167 : Tkb P167 U167 := Tbc V167_0 (Tbc V167_1 (Tbc V167_2 (Tbc V167_3 (Tbc V167_4 (Tbc V167_5 (Tbc V167_6 (Tbc V167_7 (Tbc V167_8 (Tbc V167_9 (Tbc V167_10 (Tbc V167_11 (Tbc V167_12 (Tbc V167_13 (Tbc V167_14 (Tbn)))))))))))))))
def U168_0 : List (Nat × zT) := [(0, tLd 0 0 1), (1, tLd 0 0 2), (2, tK 1 3), (3, tI2 gxu 4), (4, tK 1431655765 7), (7, tI2 gxa 8), (8, tSb 9), (9, tSt false 0 0 10)]
theorem V168_0 : Tkp B168_0 U168_0 := Tkc d_LI (Tkc d_LI (Tkc (d_K rfl) (Tkc d_ushr (Tkc (d_Kc rfl) (Tkc d_and (Tkc d_Sb (Tkc (d_SI (i := 0) (nL := 1) (n := 10) rfl) (Tkn))))))))
def U168_1 : List (Nat × zT) := [(10, tLd 0 0 11), (11, tK 858993459 14), (14, tI2 gxa 15), (15, tLd 0 0 16), (16, tK 2 17), (17, tI2 gxu 18), (18, tK 858993459 21), (21, tI2 gxa 22)]
theorem V168_1 : Tkp B168_1 U168_1 := Tkc d_LI (Tkc (d_Kc rfl) (Tkc d_and (Tkc d_LI (Tkc (d_K rfl) (Tkc d_ushr (Tkc (d_Kc rfl) (Tkc d_and (Tkn))))))))
def U168_2 : List (Nat × zT) := [(22, tAd 23), (23, tSt false 0 0 24), (24, tLd 0 0 25), (25, tLd 0 0 26), (26, tK 4 27), (27, tI2 gxu 28), (28, tAd 29), (29, tK 252645135 32)]
theorem V168_2 : Tkp B168_2 U168_2 := Tkc d_Ad (Tkc (d_SI (i := 0) (nL := 1) (n := 24) rfl) (Tkc d_LI (Tkc d_LI (Tkc (d_K rfl) (Tkc d_ushr (Tkc d_Ad (Tkc (d_Kc rfl) (Tkn))))))))
def U168_3 : List (Nat × zT) := [(32, tI2 gxa 33), (33, tSt false 0 0 34), (34, tLd 0 0 35), (35, tLd 0 0 36), (36, tK 8 38), (38, tI2 gxu 39), (39, tAd 40), (40, tSt false 0 0 41)]
theorem V168_3 : Tkp B168_3 U168_3 := Tkc d_and (Tkc (d_SI (i := 0) (nL := 1) (n := 34) rfl) (Tkc d_LI (Tkc d_LI (Tkc (d_K rfl) (Tkc d_ushr (Tkc d_Ad (Tkc (d_SI (i := 0) (nL := 1) (n := 41) rfl) (Tkn))))))))
def U168_4 : List (Nat × zT) := [(41, tLd 0 0 42), (42, tLd 0 0 43), (43, tK 16 45), (45, tI2 gxu 46), (46, tAd 47), (47, tSt false 0 0 48), (48, tLd 0 0 49), (49, tK 63 51)]
theorem V168_4 : Tkp B168_4 U168_4 := Tkc d_LI (Tkc d_LI (Tkc (d_K rfl) (Tkc d_ushr (Tkc d_Ad (Tkc (d_SI (i := 0) (nL := 1) (n := 48) rfl) (Tkc d_LI (Tkc (d_K rfl) (Tkn))))))))
def U168_5 : List (Nat × zT) := [(51, tI2 gxa 52), (52, tRt 0)]
theorem V168_5 : Tkp B168_5 U168_5 := Tkc d_and (Tkc d_RI (Tkn))
def U168 : zP := [(9, U168_0), (21, U168_1), (29, U168_2), (40, U168_3), (49, U168_4), (52, U168_5)]
theorem V168 : Tkb P168 U168 := Tbc V168_0 (Tbc V168_1 (Tbc V168_2 (Tbc V168_3 (Tbc V168_4 (Tbc V168_5 (Tbn))))))
def U169_0 : List (Nat × zT) := [(0, tK 0 1), (1, tSt false 0 2 2), (2, tLd 2 0 3), (3, tAn 4), (4, tSt false 0 3 5), (5, tLd 0 2 6), (6, tLd 0 3 7), (7, tB2 5 20 10)]
theorem V169_0 : Tkp B169_0 U169_0 := Tkc (d_K rfl) (Tkc (d_SI (i := 2) (nL := 4) (n := 2) rfl) (Tkc d_LA (Tkc d_An (Tkc (d_SI (i := 3) (nL := 4) (n := 5) rfl) (Tkc d_LI (Tkc d_LI (Tkc d_icge (Tkn))))))))
def U169_1 : List (Nat × zT) := [(10, tLd 2 0 11), (11, tLd 0 2 12), (12, tLd 0 1 13), (13, tAT 14), (14, tIn 2 1 17), (17, tGo 5), (20, tRV)]
theorem V169_1 : Tkp B169_1 U169_1 := Tkc d_LA (Tkc d_LI (Tkc d_LI (Tkc d_AT (Tkc (d_In (i := 2) (x := 1) (nL := 4) (n := 17) (c := 1) rfl rfl) (Tkc d_Go (Tkc d_RV (Tkn)))))))
def U169 : zP := [(7, U169_0), (20, U169_1)]
theorem V169 : Tkb P169 U169 := Tbc V169_0 (Tbc V169_1 (Tbn))
