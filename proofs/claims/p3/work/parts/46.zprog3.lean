/-! the checker's programs of the methods, printed -/
def U125_0 : List (Nat × zT) := [(0, tK 0 1), (1, tSt false 0 1 2), (2, tLd 0 1 3), (3, tK 4 4), (4, tB2 5 20 7), (7, tLd 2 0 8), (8, tGe 5 13 11), (11, tLd 0 1 12)]
theorem V125_0 : Tkp B125_0 U125_0 := Tkc (d_K rfl) (Tkc (d_SI (i := 1) (nL := 4) (n := 2) rfl) (Tkc d_LI (Tkc (d_K rfl) (Tkc d_icge (Tkc d_LA (Tkc d_Ge (Tkc d_LI (Tkn))))))))
def U125_1 : List (Nat × zT) := [(12, tK 0 13), (13, tAT 14), (14, tIn 1 1 17), (17, tGo 2), (20, tK 0 21), (21, tSt false 0 1 22), (22, tLd 0 1 23), (23, tK 6 25)]
theorem V125_1 : Tkp B125_1 U125_1 := Tkc (d_K rfl) (Tkc d_AT (Tkc (d_In (i := 1) (x := 1) (nL := 4) (n := 17) (c := 1) rfl rfl) (Tkc d_Go (Tkc (d_K rfl) (Tkc (d_SI (i := 1) (nL := 4) (n := 22) rfl) (Tkc d_LI (Tkc (d_K rfl) (Tkn))))))))
def U125_2 : List (Nat × zT) := [(25, tB2 5 110 28), (28, tK (-1) 29), (29, tSt false 0 2 30), (30, tK 0 31), (31, tSt false 0 3 32), (32, tLd 0 3 33), (33, tLd 2 0 34), (34, tGe 5 0 37)]
theorem V125_2 : Tkp B125_2 U125_2 := Tkc d_icge (Tkc (d_K rfl) (Tkc (d_SI (i := 2) (nL := 4) (n := 30) rfl) (Tkc (d_K rfl) (Tkc (d_SI (i := 3) (nL := 4) (n := 32) rfl) (Tkc d_LI (Tkc d_LA (Tkc d_Ge (Tkn))))))))
def U125_3 : List (Nat × zT) := [(37, tK 1 38), (38, tAI 39), (39, tB2 5 78 42), (42, tLd 0 1 43), (43, tLd 2 0 44), (44, tGe 5 0 47), (47, tK 0 48), (48, tAI 49)]
theorem V125_3 : Tkp B125_3 U125_3 := Tkc (d_K rfl) (Tkc d_AI (Tkc d_icge (Tkc d_LI (Tkc d_LA (Tkc d_Ge (Tkc (d_K rfl) (Tkc d_AI (Tkn))))))))
def U125_4 : List (Nat × zT) := [(49, tB2 5 78 52), (52, tLd 0 2 53), (53, tK (-1) 54), (54, tB2 2 66 57), (57, tLd 2 0 58), (58, tLd 0 3 59), (59, tLd 0 2 60), (60, tCV 5 124 2)]
theorem V125_4 : Tkp B125_4 U125_4 := Tkc d_icge (Tkc d_LI (Tkc (d_K rfl) (Tkc d_iceq (Tkc d_LA (Tkc d_LI (Tkc d_LI (Tkc d_CV (Tkn))))))))
def U125_5 : List (Nat × zT) := [(63, tB1 2 70 66), (66, tLd 0 3 67), (67, tGo 71), (70, tLd 0 2 71), (71, tSt false 0 2 72), (72, tIn 3 1 75), (75, tGo 32), (78, tLd 2 0 79)]
theorem V125_5 : Tkp B125_5 U125_5 := Tkc d_ifeq (Tkc d_LI (Tkc d_Go (Tkc d_LI (Tkc (d_SI (i := 2) (nL := 4) (n := 72) rfl) (Tkc (d_In (i := 3) (x := 1) (nL := 4) (n := 75) (c := 1) rfl rfl) (Tkc d_Go (Tkc d_LA (Tkn))))))))
def U125_6 : List (Nat × zT) := [(79, tGe 5 12 82), (82, tLd 0 1 83), (83, tLd 0 2 84), (84, tAT 85), (85, tLd 2 0 86), (86, tGe 5 13 89), (89, tLd 0 2 90), (90, tK (-1) 91)]
theorem V125_6 : Tkp B125_6 U125_6 := Tkc d_Ge (Tkc d_LI (Tkc d_LI (Tkc d_AT (Tkc d_LA (Tkc d_Ge (Tkc d_LI (Tkc (d_K rfl) (Tkn))))))))
def U125_7 : List (Nat × zT) := [(91, tB2 3 98 94), (94, tK 0 95), (95, tGo 99), (98, tLd 0 2 99), (99, tD2 100), (100, tAI 101), (101, tK 1 102), (102, tAd 103)]
theorem V125_7 : Tkp B125_7 U125_7 := Tkc d_icne (Tkc (d_K rfl) (Tkc d_Go (Tkc d_LI (Tkc d_D2 (Tkc d_AI (Tkc (d_K rfl) (Tkc d_Ad (Tkn))))))))
def U125_8 : List (Nat × zT) := [(103, tAT 104), (104, tIn 1 1 107), (107, tGo 22), (110, tRV)]
theorem V125_8 : Tkp B125_8 U125_8 := Tkc d_AT (Tkc (d_In (i := 1) (x := 1) (nL := 4) (n := 107) (c := 1) rfl rfl) (Tkc d_Go (Tkc d_RV (Tkn))))
def U125 : zP := [(11, U125_0), (23, U125_1), (34, U125_2), (48, U125_3), (60, U125_4), (78, U125_5), (90, U125_6), (102, U125_7), (110, U125_8)]
theorem V125 : Tkb P125 U125 := Tbc V125_0 (Tbc V125_1 (Tbc V125_2 (Tbc V125_3 (Tbc V125_4 (Tbc V125_5 (Tbc V125_6 (Tbc V125_7 (Tbc V125_8 (Tbn)))))))))
def U126_0 : List (Nat × zT) := [(0, tLd 2 0 1), (1, tCV 5 125 0), (4, tLd 0 1 5), (5, tK 6 7), (7, tB2 5 19 10), (10, tLd 2 0 11), (11, tGe 5 12 14), (14, tLd 0 1 15)]
theorem V126_0 : Tkp B126_0 U126_0 := Tkc d_LA (Tkc d_CV (Tkc d_LI (Tkc (d_K rfl) (Tkc d_icge (Tkc d_LA (Tkc d_Ge (Tkc d_LI (Tkn))))))))
def U126_1 : List (Nat × zT) := [(15, tAI 16), (16, tGo 20), (19, tK (-1) 20), (20, tRt 0)]
theorem V126_1 : Tkp B126_1 U126_1 := Tkc d_AI (Tkc d_Go (Tkc (d_K rfl) (Tkc d_RI (Tkn))))
def U126 : zP := [(14, U126_0), (20, U126_1)]
theorem V126 : Tkb P126 U126 := Tbc V126_0 (Tbc V126_1 (Tbn))
def U127_0 : List (Nat × zT) := [(0, tLd 0 1 1), (1, tB1 5 13 4), (4, tLd 2 0 5), (5, tK (-2) 7), (7, tCV 5 99 1), (10, tGo 18), (13, tLd 2 0 14), (14, tLd 0 1 15)]
theorem V127_0 : Tkp B127_0 U127_0 := Tkc d_LI (Tkc d_ifge (Tkc d_LA (Tkc (d_K rfl) (Tkc d_CV (Tkc d_Go (Tkc d_LA (Tkc d_LI (Tkn))))))))
def U127_1 : List (Nat × zT) := [(15, tCV 5 126 1), (18, tRt 0)]
theorem V127_1 : Tkp B127_1 U127_1 := Tkc d_CV (Tkc d_RI (Tkn))
def U127 : zP := [(14, U127_0), (18, U127_1)]
theorem V127 : Tkb P127 U127 := Tbc V127_0 (Tbc V127_1 (Tbn))
def U128_0 : List (Nat × zT) := [(0, tLd 2 0 1), (1, tCV 5 125 0), (4, tK 0 5), (5, tSt false 0 3 6), (6, tK 0 7), (7, tSt false 0 4 9), (9, tLd 0 4 11), (11, tLd 0 2 12)]
theorem V128_0 : Tkp B128_0 U128_0 := Tkc d_LA (Tkc d_CV (Tkc (d_K rfl) (Tkc (d_SI (i := 3) (nL := 5) (n := 6) rfl) (Tkc (d_K rfl) (Tkc (d_SI (i := 4) (nL := 5) (n := 9) rfl) (Tkc d_LI (Tkc d_LI (Tkn))))))))
def U128_1 : List (Nat × zT) := [(12, tB2 5 40 15), (15, tLd 0 3 16), (16, tLd 2 0 17), (17, tGe 5 12 20), (20, tLd 0 4 22), (22, tAI 23), (23, tLd 0 1 24), (24, tB2 3 31 27)]
theorem V128_1 : Tkp B128_1 U128_1 := Tkc d_icge (Tkc d_LI (Tkc d_LA (Tkc d_Ge (Tkc d_LI (Tkc d_AI (Tkc d_LI (Tkc d_icne (Tkn))))))))
def U128_2 : List (Nat × zT) := [(27, tK 1 28), (28, tGo 32), (31, tK 0 32), (32, tAd 33), (33, tSt false 0 3 34), (34, tIn 4 1 37), (37, tGo 9), (40, tLd 0 3 41)]
theorem V128_2 : Tkp B128_2 U128_2 := Tkc (d_K rfl) (Tkc d_Go (Tkc (d_K rfl) (Tkc d_Ad (Tkc (d_SI (i := 3) (nL := 5) (n := 34) rfl) (Tkc (d_In (i := 4) (x := 1) (nL := 5) (n := 37) (c := 1) rfl rfl) (Tkc d_Go (Tkc d_LI (Tkn))))))))
def U128_3 : List (Nat × zT) := [(41, tRt 0)]
theorem V128_3 : Tkp B128_3 U128_3 := Tkc d_RI (Tkn)
def U128 : zP := [(11, U128_0), (24, U128_1), (40, U128_2), (41, U128_3)]
theorem V128 : Tkb P128 U128 := Tbc V128_0 (Tbc V128_1 (Tbc V128_2 (Tbc V128_3 (Tbn))))
def U129_0 : List (Nat × zT) := [(0, tK 0 1), (1, tSt false 0 2 2), (2, tK 0 3), (3, tSt false 0 3 4), (4, tLd 0 3 5), (5, tLd 2 0 6), (6, tGe 5 0 9), (9, tK 0 10)]
theorem V129_0 : Tkp B129_0 U129_0 := Tkc (d_K rfl) (Tkc (d_SI (i := 2) (nL := 4) (n := 2) rfl) (Tkc (d_K rfl) (Tkc (d_SI (i := 3) (nL := 4) (n := 4) rfl) (Tkc d_LI (Tkc d_LA (Tkc d_Ge (Tkc (d_K rfl) (Tkn))))))))
def U129_1 : List (Nat × zT) := [(10, tAI 11), (11, tB2 5 46 14), (14, tLd 0 2 15), (15, tLd 2 0 16), (16, tGe 5 0 19), (19, tK 15 21), (21, tLd 0 3 22), (22, tAd 23)]
theorem V129_1 : Tkp B129_1 U129_1 := Tkc d_AI (Tkc d_icge (Tkc d_LI (Tkc d_LA (Tkc d_Ge (Tkc (d_K rfl) (Tkc d_LI (Tkc d_Ad (Tkn))))))))
def U129_2 : List (Nat × zT) := [(23, tAI 24), (24, tLd 0 1 25), (25, tB2 3 37 28), (28, tLd 2 0 29), (29, tLd 0 1 30), (30, tLd 0 3 31), (31, tCV 5 104 2), (34, tGo 38)]
theorem V129_2 : Tkp B129_2 U129_2 := Tkc d_AI (Tkc d_LI (Tkc d_icne (Tkc d_LA (Tkc d_LI (Tkc d_LI (Tkc d_CV (Tkc d_Go (Tkn))))))))
def U129_3 : List (Nat × zT) := [(37, tK 0 38), (38, tAd 39), (39, tSt false 0 2 40), (40, tIn 3 1 43), (43, tGo 4), (46, tLd 0 2 47), (47, tRt 0)]
theorem V129_3 : Tkp B129_3 U129_3 := Tkc (d_K rfl) (Tkc d_Ad (Tkc (d_SI (i := 2) (nL := 4) (n := 40) rfl) (Tkc (d_In (i := 3) (x := 1) (nL := 4) (n := 43) (c := 1) rfl rfl) (Tkc d_Go (Tkc d_LI (Tkc d_RI (Tkn)))))))
def U129 : zP := [(9, U129_0), (22, U129_1), (34, U129_2), (47, U129_3)]
theorem V129 : Tkb P129 U129 := Tbc V129_0 (Tbc V129_1 (Tbc V129_2 (Tbc V129_3 (Tbn))))
def U130_0 : List (Nat × zT) := [(0, tK 0 1), (1, tSt false 0 2 2), (2, tK 0 3), (3, tSt false 0 3 4), (4, tLd 0 3 5), (5, tLd 2 0 6), (6, tGe 5 0 9), (9, tK 0 10)]
theorem V130_0 : Tkp B130_0 U130_0 := Tkc (d_K rfl) (Tkc (d_SI (i := 2) (nL := 4) (n := 2) rfl) (Tkc (d_K rfl) (Tkc (d_SI (i := 3) (nL := 4) (n := 4) rfl) (Tkc d_LI (Tkc d_LA (Tkc d_Ge (Tkc (d_K rfl) (Tkn))))))))
def U130_1 : List (Nat × zT) := [(10, tAI 11), (11, tB2 5 29 14), (14, tLd 0 2 15), (15, tLd 2 0 16), (16, tLd 0 1 17), (17, tLd 0 3 18), (18, tCV 5 104 2), (21, tAd 22)]
theorem V130_1 : Tkp B130_1 U130_1 := Tkc d_AI (Tkc d_icge (Tkc d_LI (Tkc d_LA (Tkc d_LI (Tkc d_LI (Tkc d_CV (Tkc d_Ad (Tkn))))))))
def U130_2 : List (Nat × zT) := [(22, tSt false 0 2 23), (23, tIn 3 1 26), (26, tGo 4), (29, tLd 0 2 30), (30, tRt 0)]
theorem V130_2 : Tkp B130_2 U130_2 := Tkc (d_SI (i := 2) (nL := 4) (n := 23) rfl) (Tkc (d_In (i := 3) (x := 1) (nL := 4) (n := 26) (c := 1) rfl rfl) (Tkc d_Go (Tkc d_LI (Tkc d_RI (Tkn)))))
def U130 : zP := [(9, U130_0), (21, U130_1), (30, U130_2)]
theorem V130 : Tkb P130 U130 := Tbc V130_0 (Tbc V130_1 (Tbc V130_2 (Tbn)))
def U131_0 : List (Nat × zT) := [(0, tLd 0 2 1), (1, tB1 3 16 4), (4, tLd 2 0 5), (5, tGe 5 0 8), (8, tK 9 10), (10, tLd 0 1 11), (11, tAd 12), (12, tAI 13)]
theorem V131_0 : Tkp B131_0 U131_0 := Tkc d_LI (Tkc d_ifne (Tkc d_LA (Tkc d_Ge (Tkc (d_K rfl) (Tkc d_LI (Tkc d_Ad (Tkc d_AI (Tkn))))))))
def U131_1 : List (Nat × zT) := [(13, tGo 60), (16, tLd 0 2 17), (17, tK 1 18), (18, tB2 3 33 21), (21, tLd 2 0 22), (22, tGe 5 0 25), (25, tK 15 27), (27, tLd 0 1 28)]
theorem V131_1 : Tkp B131_1 U131_1 := Tkc d_Go (Tkc d_LI (Tkc (d_K rfl) (Tkc d_icne (Tkc d_LA (Tkc d_Ge (Tkc (d_K rfl) (Tkc d_LI (Tkn))))))))
def U131_2 : List (Nat × zT) := [(28, tAd 29), (29, tAI 30), (30, tGo 60), (33, tLd 0 2 34), (34, tK 2 35), (35, tB2 3 50 38), (38, tLd 2 0 39), (39, tGe 5 0 42)]
theorem V131_2 : Tkp B131_2 U131_2 := Tkc d_Ad (Tkc d_AI (Tkc d_Go (Tkc d_LI (Tkc (d_K rfl) (Tkc d_icne (Tkc d_LA (Tkc d_Ge (Tkn))))))))
def U131_3 : List (Nat × zT) := [(42, tK 21 44), (44, tLd 0 1 45), (45, tAd 46), (46, tAI 47), (47, tGo 60), (50, tLd 2 0 51), (51, tGe 5 0 54), (54, tK 3 55)]
theorem V131_3 : Tkp B131_3 U131_3 := Tkc (d_K rfl) (Tkc d_LI (Tkc d_Ad (Tkc d_AI (Tkc d_Go (Tkc d_LA (Tkc d_Ge (Tkc (d_K rfl) (Tkn))))))))
def U131_4 : List (Nat × zT) := [(55, tAI 56), (56, tLd 0 1 57), (57, tI2 gxr 58), (58, tK 1 59), (59, tI2 gxa 60), (60, tRt 0)]
theorem V131_4 : Tkp B131_4 U131_4 := Tkc d_AI (Tkc d_LI (Tkc d_shr (Tkc (d_K rfl) (Tkc d_and (Tkc d_RI (Tkn))))))
def U131 : zP := [(12, U131_0), (27, U131_1), (39, U131_2), (54, U131_3), (60, U131_4)]
theorem V131 : Tkb P131 U131 := Tbc V131_0 (Tbc V131_1 (Tbc V131_2 (Tbc V131_3 (Tbc V131_4 (Tbn)))))
def U132_0 : List (Nat × zT) := [(0, tLd 2 0 1), (1, tLd 0 1 2), (2, tCV 5 102 1), (5, tB1 2 29 8), (8, tLd 0 2 9), (9, tIL 10), (10, tKL 0 11), (11, tKL 3 14)]
theorem V132_0 : Tkp B132_0 U132_0 := Tkc d_LA (Tkc d_LI (Tkc d_CV (Tkc d_ifeq (Tkc d_LI (Tkc d_IL (Tkc (d_KL rfl) (Tkc (d_KLc rfl) (Tkn))))))))
def U132_1 : List (Nat × zT) := [(14, tCS 96 3), (17, tB1 2 29 20), (20, tLd 2 0 21), (21, tLd 0 1 22), (22, tLd 0 2 23), (23, tCV 5 131 2), (26, tGo 35), (29, tLd 2 0 30)]
theorem V132_1 : Tkp B132_1 U132_1 := Tkc d_CS (Tkc d_ifeq (Tkc d_LA (Tkc d_LI (Tkc d_LI (Tkc d_CV (Tkc d_Go (Tkc d_LA (Tkn))))))))
def U132_2 : List (Nat × zT) := [(30, tK (-2) 32), (32, tCV 5 99 1), (35, tRt 0)]
theorem V132_2 : Tkp B132_2 U132_2 := Tkc (d_K rfl) (Tkc d_CV (Tkc d_RI (Tkn)))
def U132 : zP := [(11, U132_0), (29, U132_1), (35, U132_2)]
theorem V132 : Tkb P132 U132 := Tbc V132_0 (Tbc V132_1 (Tbc V132_2 (Tbn)))
def U133_0 : List (Nat × zT) := [(0, tLd 0 2 1), (1, tTb [36, 46, 58, 64, 72] 84), (36, tLd 2 0 37), (37, tGe 5 0 40), (40, tK 27 42), (42, tLd 0 1 43), (43, tAd 44), (44, tAI 45)]
theorem V133_0 : Tkp B133_0 U133_0 := Tkc d_LI (Tkc d_Tb (Tkc d_LA (Tkc d_Ge (Tkc (d_K rfl) (Tkc d_LI (Tkc d_Ad (Tkc d_AI (Tkn))))))))
def U133_1 : List (Nat × zT) := [(45, tRt 0), (46, tLd 2 0 47), (47, tGe 5 0 50), (50, tK 8 52), (52, tAI 53), (53, tLd 0 1 54), (54, tI2 gxr 55), (55, tK 1 56)]
theorem V133_1 : Tkp B133_1 U133_1 := Tkc d_RI (Tkc d_LA (Tkc d_Ge (Tkc (d_K rfl) (Tkc d_AI (Tkc d_LI (Tkc d_shr (Tkc (d_K rfl) (Tkn))))))))
def U133_2 : List (Nat × zT) := [(56, tI2 gxa 57), (57, tRt 0), (58, tLd 2 0 59), (59, tLd 0 1 60), (60, tCV 5 129 1), (63, tRt 0), (64, tLd 2 0 65), (65, tLd 0 1 66)]
theorem V133_2 : Tkp B133_2 U133_2 := Tkc d_and (Tkc d_RI (Tkc d_LA (Tkc d_LI (Tkc d_CV (Tkc d_RI (Tkc d_LA (Tkc d_LI (Tkn))))))))
def U133_3 : List (Nat × zT) := [(66, tK 6 68), (68, tCV 5 128 2), (71, tRt 0), (72, tLd 2 0 73), (73, tLd 0 1 74), (74, tLd 2 0 75), (75, tGe 5 0 78), (78, tK 4 79)]
theorem V133_3 : Tkp B133_3 U133_3 := Tkc (d_K rfl) (Tkc d_CV (Tkc d_RI (Tkc d_LA (Tkc d_LI (Tkc d_LA (Tkc d_Ge (Tkc (d_K rfl) (Tkn))))))))
def U133_4 : List (Nat × zT) := [(79, tAI 80), (80, tCV 5 128 2), (83, tRt 0), (84, tLd 2 0 85), (85, tLd 0 1 86), (86, tCV 5 130 1), (89, tRt 0)]
theorem V133_4 : Tkp B133_4 U133_4 := Tkc d_AI (Tkc d_CV (Tkc d_RI (Tkc d_LA (Tkc d_LI (Tkc d_CV (Tkc d_RI (Tkn)))))))
def U133 : zP := [(44, U133_0), (55, U133_1), (65, U133_2), (78, U133_3), (89, U133_4)]
theorem V133 : Tkb P133 U133 := Tbc V133_0 (Tbc V133_1 (Tbc V133_2 (Tbc V133_3 (Tbc V133_4 (Tbn)))))
def U134_0 : List (Nat × zT) := [(0, tLd 2 0 1), (1, tLd 0 1 2), (2, tCV 5 103 1), (5, tB1 2 29 8), (8, tLd 0 2 9), (9, tIL 10), (10, tKL 0 11), (11, tKL 5 14)]
theorem V134_0 : Tkp B134_0 U134_0 := Tkc d_LA (Tkc d_LI (Tkc d_CV (Tkc d_ifeq (Tkc d_LI (Tkc d_IL (Tkc (d_KL rfl) (Tkc (d_KLc rfl) (Tkn))))))))
def U134_1 : List (Nat × zT) := [(14, tCS 96 3), (17, tB1 2 29 20), (20, tLd 2 0 21), (21, tLd 0 1 22), (22, tLd 0 2 23), (23, tCV 5 133 2), (26, tGo 35), (29, tLd 2 0 30)]
theorem V134_1 : Tkp B134_1 U134_1 := Tkc d_CS (Tkc d_ifeq (Tkc d_LA (Tkc d_LI (Tkc d_LI (Tkc d_CV (Tkc d_Go (Tkc d_LA (Tkn))))))))
def U134_2 : List (Nat × zT) := [(30, tK (-2) 32), (32, tCV 5 99 1), (35, tRt 0)]
theorem V134_2 : Tkp B134_2 U134_2 := Tkc (d_K rfl) (Tkc d_CV (Tkc d_RI (Tkn)))
def U134 : zP := [(11, U134_0), (29, U134_1), (35, U134_2)]
theorem V134 : Tkb P134 U134 := Tbc V134_0 (Tbc V134_1 (Tbc V134_2 (Tbn)))
def U135_0 : List (Nat × zT) := [(0, tLd 2 0 1), (1, tLd 0 1 2), (2, tCV 5 103 1), (5, tB1 2 25 8), (8, tLd 2 0 9), (9, tLd 0 2 10), (10, tCV 5 102 1), (13, tB1 2 25 16)]
theorem V135_0 : Tkp B135_0 U135_0 := Tkc d_LA (Tkc d_LI (Tkc d_CV (Tkc d_ifeq (Tkc d_LA (Tkc d_LI (Tkc d_CV (Tkc d_ifeq (Tkn))))))))
def U135_1 : List (Nat × zT) := [(16, tLd 2 0 17), (17, tLd 0 1 18), (18, tLd 0 2 19), (19, tCV 5 104 2), (22, tGo 31), (25, tLd 2 0 26), (26, tK (-2) 28), (28, tCV 5 99 1)]
theorem V135_1 : Tkp B135_1 U135_1 := Tkc d_LA (Tkc d_LI (Tkc d_LI (Tkc d_CV (Tkc d_Go (Tkc d_LA (Tkc (d_K rfl) (Tkc d_CV (Tkn))))))))
def U135_2 : List (Nat × zT) := [(31, tRt 0)]
theorem V135_2 : Tkp B135_2 U135_2 := Tkc d_RI (Tkn)
def U135 : zP := [(13, U135_0), (28, U135_1), (31, U135_2)]
theorem V135 : Tkb P135 U135 := Tbc V135_0 (Tbc V135_1 (Tbc V135_2 (Tbn)))
def U136_0 : List (Nat × zT) := [(0, tLd 2 0 1), (1, tLd 0 1 2), (2, tCV 5 103 1), (5, tB1 2 28 8), (8, tLd 2 0 9), (9, tLd 0 2 10), (10, tCV 5 102 1), (13, tB1 2 28 16)]
theorem V136_0 : Tkp B136_0 U136_0 := Tkc d_LA (Tkc d_LI (Tkc d_CV (Tkc d_ifeq (Tkc d_LA (Tkc d_LI (Tkc d_CV (Tkc d_ifeq (Tkn))))))))
def U136_1 : List (Nat × zT) := [(16, tLd 0 3 17), (17, tIL 18), (18, tKL 0 19), (19, tKL 99 22), (22, tCS 96 3), (25, tB1 3 35 28), (28, tLd 2 0 29), (29, tK (-2) 31)]
theorem V136_1 : Tkp B136_1 U136_1 := Tkc d_LI (Tkc d_IL (Tkc (d_KL rfl) (Tkc (d_KLc rfl) (Tkc d_CS (Tkc d_ifne (Tkc d_LA (Tkc (d_K rfl) (Tkn))))))))
def U136_2 : List (Nat × zT) := [(31, tCV 5 99 1), (34, tRt 0), (35, tLd 2 0 36), (36, tLd 0 1 37), (37, tLd 0 2 38), (38, tCV 5 104 2), (41, tSt false 0 4 43), (43, tLd 0 4 45)]
theorem V136_2 : Tkp B136_2 U136_2 := Tkc d_CV (Tkc d_RI (Tkc d_LA (Tkc d_LI (Tkc d_LI (Tkc d_CV (Tkc (d_SI (i := 4) (nL := 5) (n := 43) rfl) (Tkc d_LI (Tkn))))))))
def U136_3 : List (Nat × zT) := [(45, tLd 0 3 46), (46, tB2 3 56 49), (49, tLd 2 0 50), (50, tK (-3) 52), (52, tCV 5 99 1), (55, tRt 0), (56, tLd 2 0 57), (57, tCV 5 101 0)]
theorem V136_3 : Tkp B136_3 U136_3 := Tkc d_LI (Tkc d_icne (Tkc d_LA (Tkc (d_K rfl) (Tkc d_CV (Tkc d_RI (Tkc d_LA (Tkc d_CV (Tkn))))))))
def U136_4 : List (Nat × zT) := [(60, tLd 2 0 61), (61, tGe 5 0 64), (64, tK 31 66), (66, tK 6 68), (68, tLd 0 1 69), (69, tI2 gxm 70), (70, tAd 71), (71, tLd 0 2 72)]
theorem V136_4 : Tkp B136_4 U136_4 := Tkc d_LA (Tkc d_Ge (Tkc (d_K rfl) (Tkc (d_K rfl) (Tkc d_LI (Tkc d_mul (Tkc d_Ad (Tkc d_LI (Tkn))))))))
def U136_5 : List (Nat × zT) := [(72, tAd 73), (73, tLd 0 3 74), (74, tAT 75), (75, tLd 2 0 76), (76, tCV 5 118 0), (79, tLd 0 4 81), (81, tRt 0)]
theorem V136_5 : Tkp B136_5 U136_5 := Tkc d_Ad (Tkc d_LI (Tkc d_AT (Tkc d_LA (Tkc d_CV (Tkc d_LI (Tkc d_RI (Tkn)))))))
def U136 : zP := [(13, U136_0), (29, U136_1), (43, U136_2), (57, U136_3), (71, U136_4), (81, U136_5)]
theorem V136 : Tkb P136 U136 := Tbc V136_0 (Tbc V136_1 (Tbc V136_2 (Tbc V136_3 (Tbc V136_4 (Tbc V136_5 (Tbn))))))
def U137_0 : List (Nat × zT) := [(0, tLd 2 0 1), (1, tLd 0 1 2), (2, tCV 5 103 1), (5, tB1 2 20 8), (8, tLd 0 2 9), (9, tIL 10), (10, tKL 1 11), (11, tKL 999 14)]
theorem V137_0 : Tkp B137_0 U137_0 := Tkc d_LA (Tkc d_LI (Tkc d_CV (Tkc d_ifeq (Tkc d_LI (Tkc d_IL (Tkc (d_KL rfl) (Tkc (d_KLc rfl) (Tkn))))))))
def U137_1 : List (Nat × zT) := [(14, tCS 96 3), (17, tB1 3 27 20), (20, tLd 2 0 21), (21, tK (-2) 23), (23, tCV 5 99 1), (26, tRt 0), (27, tLd 2 0 28), (28, tGe 5 0 31)]
theorem V137_1 : Tkp B137_1 U137_1 := Tkc d_CS (Tkc d_ifne (Tkc d_LA (Tkc (d_K rfl) (Tkc d_CV (Tkc d_RI (Tkc d_LA (Tkc d_Ge (Tkn))))))))
def U137_2 : List (Nat × zT) := [(31, tK 27 33), (33, tLd 0 1 34), (34, tAd 35), (35, tAI 36), (36, tSt false 0 3 37), (37, tLd 0 3 38), (38, tLd 0 2 39), (39, tB2 3 49 42)]
theorem V137_2 : Tkp B137_2 U137_2 := Tkc (d_K rfl) (Tkc d_LI (Tkc d_Ad (Tkc d_AI (Tkc (d_SI (i := 3) (nL := 4) (n := 37) rfl) (Tkc d_LI (Tkc d_LI (Tkc d_icne (Tkn))))))))
def U137_3 : List (Nat × zT) := [(42, tLd 2 0 43), (43, tK (-3) 45), (45, tCV 5 99 1), (48, tRt 0), (49, tLd 2 0 50), (50, tCV 5 101 0), (53, tLd 2 0 54), (54, tGe 5 0 57)]
theorem V137_3 : Tkp B137_3 U137_3 := Tkc d_LA (Tkc (d_K rfl) (Tkc d_CV (Tkc d_RI (Tkc d_LA (Tkc d_CV (Tkc d_LA (Tkc d_Ge (Tkn))))))))
def U137_4 : List (Nat × zT) := [(57, tK 27 59), (59, tLd 0 1 60), (60, tAd 61), (61, tLd 0 2 62), (62, tAT 63), (63, tLd 2 0 64), (64, tCV 5 118 0), (67, tLd 0 3 68)]
theorem V137_4 : Tkp B137_4 U137_4 := Tkc (d_K rfl) (Tkc d_LI (Tkc d_Ad (Tkc d_LI (Tkc d_AT (Tkc d_LA (Tkc d_CV (Tkc d_LI (Tkn))))))))
def U137_5 : List (Nat × zT) := [(68, tRt 0)]
theorem V137_5 : Tkp B137_5 U137_5 := Tkc d_RI (Tkn)
def U137 : zP := [(11, U137_0), (28, U137_1), (39, U137_2), (54, U137_3), (67, U137_4), (68, U137_5)]
theorem V137 : Tkb P137 U137 := Tbc V137_0 (Tbc V137_1 (Tbc V137_2 (Tbc V137_3 (Tbc V137_4 (Tbc V137_5 (Tbn))))))
def U138_0 : List (Nat × zT) := [(0, tLd 0 1 1), (1, tIL 2), (2, tKL 0 3), (3, tKL 4 6), (6, tCS 96 3), (9, tB1 3 19 12), (12, tLd 2 0 13), (13, tK (-2) 15)]
theorem V138_0 : Tkp B138_0 U138_0 := Tkc d_LI (Tkc d_IL (Tkc (d_KL rfl) (Tkc (d_KLc rfl) (Tkc d_CS (Tkc d_ifne (Tkc d_LA (Tkc (d_K rfl) (Tkn))))))))
def U138_1 : List (Nat × zT) := [(15, tCV 5 99 1), (18, tRt 0), (19, tLd 2 0 20), (20, tGe 5 0 23), (23, tK 2 24), (24, tAI 25), (25, tSt false 0 2 26), (26, tLd 0 2 27)]
theorem V138_1 : Tkp B138_1 U138_1 := Tkc d_CV (Tkc d_RI (Tkc d_LA (Tkc d_Ge (Tkc (d_K rfl) (Tkc d_AI (Tkc (d_SI (i := 2) (nL := 3) (n := 26) rfl) (Tkc d_LI (Tkn))))))))
def U138_2 : List (Nat × zT) := [(27, tLd 0 1 28), (28, tB2 3 38 31), (31, tLd 2 0 32), (32, tK (-3) 34), (34, tCV 5 99 1), (37, tRt 0), (38, tLd 2 0 39), (39, tCV 5 101 0)]
theorem V138_2 : Tkp B138_2 U138_2 := Tkc d_LI (Tkc d_icne (Tkc d_LA (Tkc (d_K rfl) (Tkc d_CV (Tkc d_RI (Tkc d_LA (Tkc d_CV (Tkn))))))))
def U138_3 : List (Nat × zT) := [(42, tLd 2 0 43), (43, tGe 5 0 46), (46, tK 2 47), (47, tLd 0 1 48), (48, tAT 49), (49, tLd 2 0 50), (50, tCV 5 118 0), (53, tLd 0 2 54)]
theorem V138_3 : Tkp B138_3 U138_3 := Tkc d_LA (Tkc d_Ge (Tkc (d_K rfl) (Tkc d_LI (Tkc d_AT (Tkc d_LA (Tkc d_CV (Tkc d_LI (Tkn))))))))
def U138_4 : List (Nat × zT) := [(54, tRt 0)]
theorem V138_4 : Tkp B138_4 U138_4 := Tkc d_RI (Tkn)
def U138 : zP := [(13, U138_0), (26, U138_1), (39, U138_2), (53, U138_3), (54, U138_4)]
theorem V138 : Tkb P138 U138 := Tbc V138_0 (Tbc V138_1 (Tbc V138_2 (Tbc V138_3 (Tbc V138_4 (Tbn)))))
def U139_0 : List (Nat × zT) := [(0, tLd 0 0 1), (1, tLd 0 1 2), (2, tB2 5 9 5), (5, tLd 0 0 6), (6, tGo 10), (9, tLd 0 1 10), (10, tRt 0)]
theorem V139_0 : Tkp B139_0 U139_0 := Tkc d_LI (Tkc d_LI (Tkc d_icge (Tkc d_LI (Tkc d_Go (Tkc d_LI (Tkc d_RI (Tkn)))))))
def U139 : zP := [(10, U139_0)]
theorem V139 : Tkb P139 U139 := Tbc V139_0 (Tbn)
def U140_0 : List (Nat × zT) := [(0, tLd 2 0 1), (1, tLd 0 1 2), (2, tCV 5 102 1), (5, tB1 2 16 8), (8, tLd 2 0 9), (9, tLd 0 2 10), (10, tCV 5 102 1), (13, tB1 3 23 16)]
theorem V140_0 : Tkp B140_0 U140_0 := Tkc d_LA (Tkc d_LI (Tkc d_CV (Tkc d_ifeq (Tkc d_LA (Tkc d_LI (Tkc d_CV (Tkc d_ifne (Tkn))))))))
def U140_1 : List (Nat × zT) := [(16, tLd 2 0 17), (17, tK (-2) 19), (19, tCV 5 99 1), (22, tRt 0), (23, tLd 0 1 24), (24, tLd 0 2 25), (25, tB2 3 35 28), (28, tLd 2 0 29)]
theorem V140_1 : Tkp B140_1 U140_1 := Tkc d_LA (Tkc (d_K rfl) (Tkc d_CV (Tkc d_RI (Tkc d_LI (Tkc d_LI (Tkc d_icne (Tkc d_LA (Tkn))))))))
def U140_2 : List (Nat × zT) := [(29, tK (-3) 31), (31, tCV 5 99 1), (34, tRt 0), (35, tLd 2 0 36), (36, tCV 5 101 0), (39, tLd 2 0 40), (40, tGe 5 0 43), (43, tK 9 45)]
theorem V140_2 : Tkp B140_2 U140_2 := Tkc (d_K rfl) (Tkc d_CV (Tkc d_RI (Tkc d_LA (Tkc d_CV (Tkc d_LA (Tkc d_Ge (Tkc (d_K rfl) (Tkn))))))))
def U140_3 : List (Nat × zT) := [(45, tLd 0 1 46), (46, tAd 47), (47, tD2 48), (48, tAI 49), (49, tLd 2 0 50), (50, tGe 5 0 53), (53, tK 9 55), (55, tLd 0 2 56)]
theorem V140_3 : Tkp B140_3 U140_3 := Tkc d_LI (Tkc d_Ad (Tkc d_D2 (Tkc d_AI (Tkc d_LA (Tkc d_Ge (Tkc (d_K rfl) (Tkc d_LI (Tkn))))))))
def U140_4 : List (Nat × zT) := [(56, tAd 57), (57, tAI 58), (58, tI2 gxo 59), (59, tAT 60), (60, tLd 2 0 61), (61, tGe 5 0 64), (64, tK 0 65), (65, tD2 66)]
theorem V140_4 : Tkp B140_4 U140_4 := Tkc d_Ad (Tkc d_AI (Tkc d_or (Tkc d_AT (Tkc d_LA (Tkc d_Ge (Tkc (d_K rfl) (Tkc d_D2 (Tkn))))))))
def U140_5 : List (Nat × zT) := [(66, tAI 67), (67, tK 1 68), (68, tSb 69), (69, tAT 70), (70, tK 0 71), (71, tSt false 0 3 72), (72, tLd 0 3 73), (73, tLd 2 0 74)]
theorem V140_5 : Tkp B140_5 U140_5 := Tkc d_AI (Tkc (d_K rfl) (Tkc d_Sb (Tkc d_AT (Tkc (d_K rfl) (Tkc (d_SI (i := 3) (nL := 5) (n := 72) rfl) (Tkc d_LI (Tkc d_LA (Tkn))))))))
def U140_6 : List (Nat × zT) := [(74, tGe 5 0 77), (77, tK 1 78), (78, tAI 79), (79, tB2 5 164 82), (82, tLd 2 0 83), (83, tGe 5 0 86), (86, tK 31 88), (88, tK 6 90)]
theorem V140_6 : Tkp B140_6 U140_6 := Tkc d_Ge (Tkc (d_K rfl) (Tkc d_AI (Tkc d_icge (Tkc d_LA (Tkc d_Ge (Tkc (d_K rfl) (Tkc (d_K rfl) (Tkn))))))))
def U140_7 : List (Nat × zT) := [(90, tLd 0 3 91), (91, tI2 gxm 92), (92, tAd 93), (93, tLd 0 1 94), (94, tAd 95), (95, tK 99 97), (97, tLd 2 0 98), (98, tLd 0 3 99)]
theorem V140_7 : Tkp B140_7 U140_7 := Tkc d_LI (Tkc d_mul (Tkc d_Ad (Tkc d_LI (Tkc d_Ad (Tkc (d_K rfl) (Tkc d_LA (Tkc d_LI (Tkn))))))))
def U140_8 : List (Nat × zT) := [(99, tLd 0 1 100), (100, tCV 5 104 2), (103, tLd 2 0 104), (104, tLd 0 3 105), (105, tLd 0 2 106), (106, tCV 5 104 2), (109, tAd 110), (110, tCS 139 2)]
theorem V140_8 : Tkp B140_8 U140_8 := Tkc d_LI (Tkc d_CV (Tkc d_LA (Tkc d_LI (Tkc d_LI (Tkc d_CV (Tkc d_Ad (Tkc d_CS (Tkn))))))))
def U140_9 : List (Nat × zT) := [(113, tAT 114), (114, tLd 0 2 115), (115, tSt false 0 4 117), (117, tLd 0 4 119), (119, tLd 2 0 120), (120, tGe 5 0 123), (123, tK 0 124), (124, tAI 125)]
theorem V140_9 : Tkp B140_9 U140_9 := Tkc d_AT (Tkc d_LI (Tkc (d_SI (i := 4) (nL := 5) (n := 117) rfl) (Tkc d_LI (Tkc d_LA (Tkc d_Ge (Tkc (d_K rfl) (Tkc d_AI (Tkn))))))))
def U140_10 : List (Nat × zT) := [(125, tB2 5 158 128), (128, tLd 2 0 129), (129, tGe 5 0 132), (132, tK 31 134), (134, tK 6 136), (136, tLd 0 3 137), (137, tI2 gxm 138), (138, tAd 139)]
theorem V140_10 : Tkp B140_10 U140_10 := Tkc d_icge (Tkc d_LA (Tkc d_Ge (Tkc (d_K rfl) (Tkc (d_K rfl) (Tkc d_LI (Tkc d_mul (Tkc d_Ad (Tkn))))))))
def U140_11 : List (Nat × zT) := [(139, tLd 0 4 141), (141, tAd 142), (142, tLd 2 0 143), (143, tLd 0 3 144), (144, tLd 0 4 146), (146, tK 1 147), (147, tAd 148), (148, tCV 5 104 2)]
theorem V140_11 : Tkp B140_11 U140_11 := Tkc d_LI (Tkc d_Ad (Tkc d_LA (Tkc d_LI (Tkc d_LI (Tkc (d_K rfl) (Tkc d_Ad (Tkc d_CV (Tkn))))))))
def U140_12 : List (Nat × zT) := [(151, tAT 152), (152, tIn 4 1 155), (155, tGo 117), (158, tIn 3 1 161), (161, tGo 72), (164, tLd 0 2 165), (165, tSt false 0 3 166), (166, tLd 0 3 167)]
theorem V140_12 : Tkp B140_12 U140_12 := Tkc d_AT (Tkc (d_In (i := 4) (x := 1) (nL := 5) (n := 155) (c := 1) rfl rfl) (Tkc d_Go (Tkc (d_In (i := 3) (x := 1) (nL := 5) (n := 161) (c := 1) rfl rfl) (Tkc d_Go (Tkc d_LI (Tkc (d_SI (i := 3) (nL := 5) (n := 166) rfl) (Tkc d_LI (Tkn))))))))
def U140_13 : List (Nat × zT) := [(167, tLd 2 0 168), (168, tGe 5 0 171), (171, tK 0 172), (172, tAI 173), (173, tB2 5 202 176), (176, tLd 2 0 177), (177, tGe 5 0 180), (180, tK 9 182)]
theorem V140_13 : Tkp B140_13 U140_13 := Tkc d_LA (Tkc d_Ge (Tkc (d_K rfl) (Tkc d_AI (Tkc d_icge (Tkc d_LA (Tkc d_Ge (Tkc (d_K rfl) (Tkn))))))))
def U140_14 : List (Nat × zT) := [(182, tLd 0 3 183), (183, tAd 184), (184, tLd 2 0 185), (185, tGe 5 0 188), (188, tK 9 190), (190, tLd 0 3 191), (191, tAd 192), (192, tK 1 193)]
theorem V140_14 : Tkp B140_14 U140_14 := Tkc d_LI (Tkc d_Ad (Tkc d_LA (Tkc d_Ge (Tkc (d_K rfl) (Tkc d_LI (Tkc d_Ad (Tkc (d_K rfl) (Tkn))))))))
def U140_15 : List (Nat × zT) := [(193, tAd 194), (194, tAI 195), (195, tAT 196), (196, tIn 3 1 199), (199, tGo 166), (202, tLd 2 0 203), (203, tCV 5 118 0), (206, tLd 2 0 207)]
theorem V140_15 : Tkp B140_15 U140_15 := Tkc d_Ad (Tkc d_AI (Tkc d_AT (Tkc (d_In (i := 3) (x := 1) (nL := 5) (n := 199) (c := 1) rfl rfl) (Tkc d_Go (Tkc d_LA (Tkc d_CV (Tkc d_LA (Tkn))))))))
def U140_16 : List (Nat × zT) := [(207, tGe 5 0 210), (210, tK 0 211), (211, tAI 212), (212, tRt 0)]
theorem V140_16 : Tkp B140_16 U140_16 := Tkc d_Ge (Tkc (d_K rfl) (Tkc d_AI (Tkc d_RI (Tkn))))
def U140 : zP := [(13, U140_0), (28, U140_1), (43, U140_2), (55, U140_3), (65, U140_4), (73, U140_5), (88, U140_6), (98, U140_7), (110, U140_8), (124, U140_9), (138, U140_10), (148, U140_11), (166, U140_12), (180, U140_13), (192, U140_14), (206, U140_15), (212, U140_16)]
theorem V140 : Tkb P140 U140 := Tbc V140_0 (Tbc V140_1 (Tbc V140_2 (Tbc V140_3 (Tbc V140_4 (Tbc V140_5 (Tbc V140_6 (Tbc V140_7 (Tbc V140_8 (Tbc V140_9 (Tbc V140_10 (Tbc V140_11 (Tbc V140_12 (Tbc V140_13 (Tbc V140_14 (Tbc V140_15 (Tbc V140_16 (Tbn)))))))))))))))))
def U141_0 : List (Nat × zT) := [(0, tLd 2 0 1), (1, tLd 0 1 2), (2, tCV 5 103 1), (5, tB1 2 16 8), (8, tLd 2 0 9), (9, tLd 0 2 10), (10, tCV 5 103 1), (13, tB1 3 23 16)]
theorem V141_0 : Tkp B141_0 U141_0 := Tkc d_LA (Tkc d_LI (Tkc d_CV (Tkc d_ifeq (Tkc d_LA (Tkc d_LI (Tkc d_CV (Tkc d_ifne (Tkn))))))))
def U141_1 : List (Nat × zT) := [(16, tLd 2 0 17), (17, tK (-2) 19), (19, tCV 5 99 1), (22, tRt 0), (23, tLd 0 1 24), (24, tLd 0 2 25), (25, tB2 3 35 28), (28, tLd 2 0 29)]
theorem V141_1 : Tkp B141_1 U141_1 := Tkc d_LA (Tkc (d_K rfl) (Tkc d_CV (Tkc d_RI (Tkc d_LI (Tkc d_LI (Tkc d_icne (Tkc d_LA (Tkn))))))))
def U141_2 : List (Nat × zT) := [(29, tK (-3) 31), (31, tCV 5 99 1), (34, tRt 0), (35, tLd 2 0 36), (36, tCV 5 101 0), (39, tLd 2 0 40), (40, tGe 5 0 43), (43, tK 27 45)]
theorem V141_2 : Tkp B141_2 U141_2 := Tkc (d_K rfl) (Tkc d_CV (Tkc d_RI (Tkc d_LA (Tkc d_CV (Tkc d_LA (Tkc d_Ge (Tkc (d_K rfl) (Tkn))))))))
def U141_3 : List (Nat × zT) := [(45, tLd 0 1 46), (46, tAd 47), (47, tK 999 50), (50, tLd 2 0 51), (51, tGe 5 0 54), (54, tK 27 56), (56, tLd 0 1 57), (57, tAd 58)]
theorem V141_3 : Tkp B141_3 U141_3 := Tkc d_LI (Tkc d_Ad (Tkc (d_K rfl) (Tkc d_LA (Tkc d_Ge (Tkc (d_K rfl) (Tkc d_LI (Tkc d_Ad (Tkn))))))))
def U141_4 : List (Nat × zT) := [(58, tAI 59), (59, tLd 2 0 60), (60, tGe 5 0 63), (63, tK 27 65), (65, tLd 0 2 66), (66, tAd 67), (67, tAI 68), (68, tAd 69)]
theorem V141_4 : Tkp B141_4 U141_4 := Tkc d_AI (Tkc d_LA (Tkc d_Ge (Tkc (d_K rfl) (Tkc d_LI (Tkc d_Ad (Tkc d_AI (Tkc d_Ad (Tkn))))))))
def U141_5 : List (Nat × zT) := [(69, tCS 139 2), (72, tAT 73), (73, tK 0 74), (74, tSt false 0 3 75), (75, tLd 0 3 76), (76, tLd 2 0 77), (77, tGe 5 0 80), (80, tK 0 81)]
theorem V141_5 : Tkp B141_5 U141_5 := Tkc d_CS (Tkc d_AT (Tkc (d_K rfl) (Tkc (d_SI (i := 3) (nL := 6) (n := 75) rfl) (Tkc d_LI (Tkc d_LA (Tkc d_Ge (Tkc (d_K rfl) (Tkn))))))))
def U141_6 : List (Nat × zT) := [(81, tAI 82), (82, tB2 5 135 85), (85, tLd 2 0 86), (86, tGe 5 0 89), (89, tK 31 91), (91, tK 6 93), (93, tLd 0 1 94), (94, tI2 gxm 95)]
theorem V141_6 : Tkp B141_6 U141_6 := Tkc d_AI (Tkc d_icge (Tkc d_LA (Tkc d_Ge (Tkc (d_K rfl) (Tkc (d_K rfl) (Tkc d_LI (Tkc d_mul (Tkn))))))))
def U141_7 : List (Nat × zT) := [(95, tAd 96), (96, tLd 0 3 97), (97, tAd 98), (98, tLd 2 0 99), (99, tLd 0 1 100), (100, tLd 0 3 101), (101, tCV 5 104 2), (104, tLd 2 0 105)]
theorem V141_7 : Tkp B141_7 U141_7 := Tkc d_Ad (Tkc d_LI (Tkc d_Ad (Tkc d_LA (Tkc d_LI (Tkc d_LI (Tkc d_CV (Tkc d_LA (Tkn))))))))
def U141_8 : List (Nat × zT) := [(105, tLd 0 2 106), (106, tLd 0 3 107), (107, tCV 5 104 2), (110, tB2 1 122 113), (113, tLd 2 0 114), (114, tLd 0 1 115), (115, tLd 0 3 116), (116, tCV 5 104 2)]
theorem V141_8 : Tkp B141_8 U141_8 := Tkc d_LI (Tkc d_LI (Tkc d_CV (Tkc d_icle (Tkc d_LA (Tkc d_LI (Tkc d_LI (Tkc d_CV (Tkn))))))))
def U141_9 : List (Nat × zT) := [(119, tGo 128), (122, tLd 2 0 123), (123, tLd 0 2 124), (124, tLd 0 3 125), (125, tCV 5 104 2), (128, tAT 129), (129, tIn 3 1 132), (132, tGo 75)]
theorem V141_9 : Tkp B141_9 U141_9 := Tkc d_Go (Tkc d_LA (Tkc d_LI (Tkc d_LI (Tkc d_CV (Tkc d_AT (Tkc (d_In (i := 3) (x := 1) (nL := 6) (n := 132) (c := 1) rfl rfl) (Tkc d_Go (Tkn))))))))
def U141_10 : List (Nat × zT) := [(135, tLd 2 0 136), (136, tGe 5 0 139), (139, tK 7 141), (141, tAI 142), (142, tLd 2 0 143), (143, tGe 5 0 146), (146, tK 7 148), (148, tAI 149)]
theorem V141_10 : Tkp B141_10 U141_10 := Tkc d_LA (Tkc d_Ge (Tkc (d_K rfl) (Tkc d_AI (Tkc d_LA (Tkc d_Ge (Tkc (d_K rfl) (Tkc d_AI (Tkn))))))))
def U141_11 : List (Nat × zT) := [(149, tLd 0 2 150), (150, tCS 97 2), (153, tB1 2 162 156), (156, tK 1 157), (157, tLd 0 1 158), (158, tI2 gxl 159), (159, tGo 163), (162, tK 0 163)]
theorem V141_11 : Tkp B141_11 U141_11 := Tkc d_LI (Tkc d_CS (Tkc d_ifeq (Tkc (d_K rfl) (Tkc d_LI (Tkc d_shl (Tkc d_Go (Tkc (d_K rfl) (Tkn))))))))
def U141_12 : List (Nat × zT) := [(163, tI2 gxo 164), (164, tSt false 0 3 165), (165, tLd 2 0 166), (166, tGe 5 0 169), (169, tK 7 171), (171, tLd 0 3 172), (172, tK 1 173), (173, tLd 0 2 174)]
theorem V141_12 : Tkp B141_12 U141_12 := Tkc d_or (Tkc (d_SI (i := 3) (nL := 6) (n := 165) rfl) (Tkc d_LA (Tkc d_Ge (Tkc (d_K rfl) (Tkc d_LI (Tkc (d_K rfl) (Tkc d_LI (Tkn))))))))
def U141_13 : List (Nat × zT) := [(174, tI2 gxl 175), (175, tK 1 176), (176, tSb 177), (177, tI2 gxa 178), (178, tLd 0 3 179), (179, tLd 0 2 180), (180, tK 1 181), (181, tAd 182)]
theorem V141_13 : Tkp B141_13 U141_13 := Tkc d_shl (Tkc (d_K rfl) (Tkc d_Sb (Tkc d_and (Tkc d_LI (Tkc d_LI (Tkc (d_K rfl) (Tkc d_Ad (Tkn))))))))
def U141_14 : List (Nat × zT) := [(182, tI2 gxr 183), (183, tLd 0 2 184), (184, tI2 gxl 185), (185, tI2 gxo 186), (186, tAT 187), (187, tLd 2 0 188), (188, tGe 5 0 191), (191, tK 1 192)]
theorem V141_14 : Tkp B141_14 U141_14 := Tkc d_shr (Tkc d_LI (Tkc d_shl (Tkc d_or (Tkc d_AT (Tkc d_LA (Tkc d_Ge (Tkc (d_K rfl) (Tkn))))))))
def U141_15 : List (Nat × zT) := [(192, tD2 193), (193, tAI 194), (194, tK 1 195), (195, tSb 196), (196, tAT 197), (197, tLd 0 2 198), (198, tSt false 0 4 200), (200, tLd 0 4 202)]
theorem V141_15 : Tkp B141_15 U141_15 := Tkc d_D2 (Tkc d_AI (Tkc (d_K rfl) (Tkc d_Sb (Tkc d_AT (Tkc d_LI (Tkc (d_SI (i := 4) (nL := 6) (n := 200) rfl) (Tkc d_LI (Tkn))))))))
def U141_16 : List (Nat × zT) := [(202, tLd 2 0 203), (203, tGe 5 0 206), (206, tK 1 207), (207, tAI 208), (208, tB2 5 281 211), (211, tLd 2 0 212), (212, tGe 5 0 215), (215, tK 27 217)]
theorem V141_16 : Tkp B141_16 U141_16 := Tkc d_LA (Tkc d_Ge (Tkc (d_K rfl) (Tkc d_AI (Tkc d_icge (Tkc d_LA (Tkc d_Ge (Tkc (d_K rfl) (Tkn))))))))
def U141_17 : List (Nat × zT) := [(217, tLd 0 4 219), (219, tAd 220), (220, tLd 2 0 221), (221, tGe 5 0 224), (224, tK 27 226), (226, tLd 0 4 228), (228, tAd 229), (229, tK 1 230)]
theorem V141_17 : Tkp B141_17 U141_17 := Tkc d_LI (Tkc d_Ad (Tkc d_LA (Tkc d_Ge (Tkc (d_K rfl) (Tkc d_LI (Tkc d_Ad (Tkc (d_K rfl) (Tkn))))))))
def U141_18 : List (Nat × zT) := [(230, tAd 231), (231, tAI 232), (232, tAT 233), (233, tK 0 234), (234, tSt false 0 5 236), (236, tLd 0 5 238), (238, tK 6 240), (240, tB2 5 275 243)]
theorem V141_18 : Tkp B141_18 U141_18 := Tkc d_Ad (Tkc d_AI (Tkc d_AT (Tkc (d_K rfl) (Tkc (d_SI (i := 5) (nL := 6) (n := 236) rfl) (Tkc d_LI (Tkc (d_K rfl) (Tkc d_icge (Tkn))))))))
def U141_19 : List (Nat × zT) := [(243, tLd 2 0 244), (244, tGe 5 0 247), (247, tK 31 249), (249, tK 6 251), (251, tLd 0 4 253), (253, tI2 gxm 254), (254, tAd 255), (255, tLd 0 5 257)]
theorem V141_19 : Tkp B141_19 U141_19 := Tkc d_LA (Tkc d_Ge (Tkc (d_K rfl) (Tkc (d_K rfl) (Tkc d_LI (Tkc d_mul (Tkc d_Ad (Tkc d_LI (Tkn))))))))
def U141_20 : List (Nat × zT) := [(257, tAd 258), (258, tLd 2 0 259), (259, tLd 0 4 261), (261, tK 1 262), (262, tAd 263), (263, tLd 0 5 265), (265, tCV 5 104 2), (268, tAT 269)]
theorem V141_20 : Tkp B141_20 U141_20 := Tkc d_Ad (Tkc d_LA (Tkc d_LI (Tkc (d_K rfl) (Tkc d_Ad (Tkc d_LI (Tkc d_CV (Tkc d_AT (Tkn))))))))
def U141_21 : List (Nat × zT) := [(269, tIn 5 1 272), (272, tGo 236), (275, tIn 4 1 278), (278, tGo 200), (281, tLd 2 0 282), (282, tCV 5 118 0), (285, tLd 2 0 286), (286, tGe 5 0 289)]
theorem V141_21 : Tkp B141_21 U141_21 := Tkc (d_In (i := 5) (x := 1) (nL := 6) (n := 272) (c := 1) rfl rfl) (Tkc d_Go (Tkc (d_In (i := 4) (x := 1) (nL := 6) (n := 278) (c := 1) rfl rfl) (Tkc d_Go (Tkc d_LA (Tkc d_CV (Tkc d_LA (Tkc d_Ge (Tkn))))))))
def U141_22 : List (Nat × zT) := [(289, tK 1 290), (290, tAI 291), (291, tRt 0)]
theorem V141_22 : Tkp B141_22 U141_22 := Tkc (d_K rfl) (Tkc d_AI (Tkc d_RI (Tkn)))
def U141 : zP := [(13, U141_0), (28, U141_1), (43, U141_2), (57, U141_3), (68, U141_4), (80, U141_5), (94, U141_6), (104, U141_7), (116, U141_8), (132, U141_9), (148, U141_10), (162, U141_11), (173, U141_12), (181, U141_13), (191, U141_14), (200, U141_15), (215, U141_16), (229, U141_17), (240, U141_18), (255, U141_19), (268, U141_20), (286, U141_21), (291, U141_22)]
theorem V141 : Tkb P141 U141 := Tbc V141_0 (Tbc V141_1 (Tbc V141_2 (Tbc V141_3 (Tbc V141_4 (Tbc V141_5 (Tbc V141_6 (Tbc V141_7 (Tbc V141_8 (Tbc V141_9 (Tbc V141_10 (Tbc V141_11 (Tbc V141_12 (Tbc V141_13 (Tbc V141_14 (Tbc V141_15 (Tbc V141_16 (Tbc V141_17 (Tbc V141_18 (Tbc V141_19 (Tbc V141_20 (Tbc V141_21 (Tbc V141_22 (Tbn)))))))))))))))))))))))
def U142_0 : List (Nat × zT) := [(0, tK 0 1), (1, tSt false 0 1 2), (2, tK 0 3), (3, tSt false 0 2 4), (4, tLd 0 2 5), (5, tLd 2 0 6), (6, tGe 5 0 9), (9, tK 0 10)]
theorem V142_0 : Tkp B142_0 U142_0 := Tkc (d_K rfl) (Tkc (d_SI (i := 1) (nL := 3) (n := 2) rfl) (Tkc (d_K rfl) (Tkc (d_SI (i := 2) (nL := 3) (n := 4) rfl) (Tkc d_LI (Tkc d_LA (Tkc d_Ge (Tkc (d_K rfl) (Tkn))))))))
def U142_1 : List (Nat × zT) := [(10, tAI 11), (11, tB2 5 43 14), (14, tLd 0 1 15), (15, tLd 2 0 16), (16, tGe 5 0 19), (19, tK 15 21), (21, tLd 0 2 22), (22, tAd 23)]
theorem V142_1 : Tkp B142_1 U142_1 := Tkc d_AI (Tkc d_icge (Tkc d_LI (Tkc d_LA (Tkc d_Ge (Tkc (d_K rfl) (Tkc d_LI (Tkc d_Ad (Tkn))))))))
def U142_2 : List (Nat × zT) := [(23, tAI 24), (24, tK (-1) 25), (25, tB2 3 34 28), (28, tK 1 29), (29, tLd 0 2 30), (30, tI2 gxl 31), (31, tGo 35), (34, tK 0 35)]
theorem V142_2 : Tkp B142_2 U142_2 := Tkc d_AI (Tkc (d_K rfl) (Tkc d_icne (Tkc (d_K rfl) (Tkc d_LI (Tkc d_shl (Tkc d_Go (Tkc (d_K rfl) (Tkn))))))))
def U142_3 : List (Nat × zT) := [(35, tI2 gxo 36), (36, tSt false 0 1 37), (37, tIn 2 1 40), (40, tGo 4), (43, tLd 0 1 44), (44, tRt 0)]
theorem V142_3 : Tkp B142_3 U142_3 := Tkc d_or (Tkc (d_SI (i := 1) (nL := 3) (n := 37) rfl) (Tkc (d_In (i := 2) (x := 1) (nL := 3) (n := 40) (c := 1) rfl rfl) (Tkc d_Go (Tkc d_LI (Tkc d_RI (Tkn))))))
def U142 : zP := [(9, U142_0), (22, U142_1), (34, U142_2), (44, U142_3)]
theorem V142 : Tkb P142 U142 := Tbc V142_0 (Tbc V142_1 (Tbc V142_2 (Tbc V142_3 (Tbn))))
def U143_0 : List (Nat × zT) := [(0, tLd 2 0 1), (1, tLd 2 0 2), (2, tGe 5 0 5), (5, tK 4 6), (6, tAI 7), (7, tCV 5 126 1), (10, tK (-1) 11), (11, tB2 2 38 14)]
theorem V143_0 : Tkp B143_0 U143_0 := Tkc d_LA (Tkc d_LA (Tkc d_Ge (Tkc (d_K rfl) (Tkc d_AI (Tkc d_CV (Tkc (d_K rfl) (Tkc d_iceq (Tkn))))))))
def U143_1 : List (Nat × zT) := [(14, tLd 2 0 15), (15, tCV 5 142 0), (18, tLd 2 0 19), (19, tGe 5 0 22), (22, tK 3 23), (23, tAI 24), (24, tK (-1) 25), (25, tI2 gxx 26)]
theorem V143_1 : Tkp B143_1 U143_1 := Tkc d_LA (Tkc d_CV (Tkc d_LA (Tkc d_Ge (Tkc (d_K rfl) (Tkc d_AI (Tkc (d_K rfl) (Tkc d_xor (Tkn))))))))
def U143_2 : List (Nat × zT) := [(26, tI2 gxa 27), (27, tLd 0 1 28), (28, tCS 97 2), (31, tB1 2 38 34), (34, tK 1 35), (35, tGo 39), (38, tK 0 39), (39, tRZ)]
theorem V143_2 : Tkp B143_2 U143_2 := Tkc d_and (Tkc d_LI (Tkc d_CS (Tkc d_ifeq (Tkc (d_K rfl) (Tkc d_Go (Tkc (d_K rfl) (Tkc d_RZ (Tkn))))))))
def U143 : zP := [(11, U143_0), (25, U143_1), (39, U143_2)]
theorem V143 : Tkb P143 U143 := Tbc V143_0 (Tbc V143_1 (Tbc V143_2 (Tbn)))
def U144_0 : List (Nat × zT) := [(0, tLd 2 0 1), (1, tLd 0 1 2), (2, tCV 5 102 1), (5, tB1 3 15 8), (8, tLd 2 0 9), (9, tK (-2) 11), (11, tCV 5 99 1), (14, tRt 0)]
theorem V144_0 : Tkp B144_0 U144_0 := Tkc d_LA (Tkc d_LI (Tkc d_CV (Tkc d_ifne (Tkc d_LA (Tkc (d_K rfl) (Tkc d_CV (Tkc d_RI (Tkn))))))))
def U144_1 : List (Nat × zT) := [(15, tLd 2 0 16), (16, tLd 0 1 17), (17, tCV 5 143 1), (20, tB1 3 30 23), (23, tLd 2 0 24), (24, tK (-3) 26), (26, tCV 5 99 1), (29, tRt 0)]
theorem V144_1 : Tkp B144_1 U144_1 := Tkc d_LA (Tkc d_LI (Tkc d_CV (Tkc d_ifne (Tkc d_LA (Tkc (d_K rfl) (Tkc d_CV (Tkc d_RI (Tkn))))))))
def U144_2 : List (Nat × zT) := [(30, tLd 2 0 31), (31, tCV 5 101 0), (34, tLd 2 0 35), (35, tLd 2 0 36), (36, tGe 5 0 39), (39, tK 4 40), (40, tAI 41), (41, tCV 5 126 1)]
theorem V144_2 : Tkp B144_2 U144_2 := Tkc d_LA (Tkc d_CV (Tkc d_LA (Tkc d_LA (Tkc d_Ge (Tkc (d_K rfl) (Tkc d_AI (Tkc d_CV (Tkn))))))))
def U144_3 : List (Nat × zT) := [(44, tSt false 0 2 45), (45, tLd 2 0 46), (46, tGe 5 0 49), (49, tK 15 51), (51, tLd 0 1 52), (52, tAd 53), (53, tLd 0 2 54), (54, tAT 55)]
theorem V144_3 : Tkp B144_3 U144_3 := Tkc (d_SI (i := 2) (nL := 3) (n := 45) rfl) (Tkc d_LA (Tkc d_Ge (Tkc (d_K rfl) (Tkc d_LI (Tkc d_Ad (Tkc d_LI (Tkc d_AT (Tkn))))))))
def U144_4 : List (Nat × zT) := [(55, tLd 2 0 56), (56, tGe 5 0 59), (59, tK 21 61), (61, tLd 0 1 62), (62, tAd 63), (63, tLd 2 0 64), (64, tGe 5 0 67), (67, tK 4 68)]
theorem V144_4 : Tkp B144_4 U144_4 := Tkc d_LA (Tkc d_Ge (Tkc (d_K rfl) (Tkc d_LI (Tkc d_Ad (Tkc d_LA (Tkc d_Ge (Tkc (d_K rfl) (Tkn))))))))
def U144_5 : List (Nat × zT) := [(68, tAI 69), (69, tAT 70), (70, tLd 2 0 71), (71, tGe 5 0 74), (74, tK 4 75), (75, tD2 76), (76, tAI 77), (77, tK 1 78)]
theorem V144_5 : Tkp B144_5 U144_5 := Tkc d_AI (Tkc d_AT (Tkc d_LA (Tkc d_Ge (Tkc (d_K rfl) (Tkc d_D2 (Tkc d_AI (Tkc (d_K rfl) (Tkn))))))))
def U144_6 : List (Nat × zT) := [(78, tAd 79), (79, tAT 80), (80, tLd 2 0 81), (81, tGe 5 0 84), (84, tK 5 85), (85, tLd 0 1 86), (86, tAT 87), (87, tLd 2 0 88)]
theorem V144_6 : Tkp B144_6 U144_6 := Tkc d_Ad (Tkc d_AT (Tkc d_LA (Tkc d_Ge (Tkc (d_K rfl) (Tkc d_LI (Tkc d_AT (Tkc d_LA (Tkn))))))))
def U144_7 : List (Nat × zT) := [(88, tGe 5 0 91), (91, tK 6 93), (93, tLd 2 0 94), (94, tGe 5 0 97), (97, tK 3 98), (98, tAI 99), (99, tAT 100), (100, tLd 2 0 101)]
theorem V144_7 : Tkp B144_7 U144_7 := Tkc d_Ge (Tkc (d_K rfl) (Tkc d_LA (Tkc d_Ge (Tkc (d_K rfl) (Tkc d_AI (Tkc d_AT (Tkc d_LA (Tkn))))))))
def U144_8 : List (Nat × zT) := [(101, tGe 5 0 104), (104, tK 3 105), (105, tK 0 106), (106, tAT 107), (107, tLd 0 2 108), (108, tRt 0)]
theorem V144_8 : Tkp B144_8 U144_8 := Tkc d_Ge (Tkc (d_K rfl) (Tkc (d_K rfl) (Tkc d_AT (Tkc d_LI (Tkc d_RI (Tkn))))))
def U144 : zP := [(14, U144_0), (29, U144_1), (41, U144_2), (54, U144_3), (67, U144_4), (77, U144_5), (87, U144_6), (100, U144_7), (108, U144_8)]
theorem V144 : Tkb P144 U144 := Tbc V144_0 (Tbc V144_1 (Tbc V144_2 (Tbc V144_3 (Tbc V144_4 (Tbc V144_5 (Tbc V144_6 (Tbc V144_7 (Tbc V144_8 (Tbn)))))))))
def U145_0 : List (Nat × zT) := [(0, tLd 2 0 1), (1, tGe 5 0 4), (4, tK 5 5), (5, tAI 6), (6, tSt false 0 2 7), (7, tLd 2 0 8), (8, tGe 5 0 11), (11, tK 8 13)]
theorem V145_0 : Tkp B145_0 U145_0 := Tkc d_LA (Tkc d_Ge (Tkc (d_K rfl) (Tkc d_AI (Tkc (d_SI (i := 2) (nL := 3) (n := 7) rfl) (Tkc d_LA (Tkc d_Ge (Tkc (d_K rfl) (Tkn))))))))
def U145_1 : List (Nat × zT) := [(13, tAI 14), (14, tLd 0 1 15), (15, tCS 97 2), (18, tB1 2 60 21), (21, tLd 0 2 22), (22, tK (-1) 23), (23, tB2 2 60 26), (26, tLd 2 0 27)]
theorem V145_1 : Tkp B145_1 U145_1 := Tkc d_AI (Tkc d_LI (Tkc d_CS (Tkc d_ifeq (Tkc d_LI (Tkc (d_K rfl) (Tkc d_iceq (Tkc d_LA (Tkn))))))))
def U145_2 : List (Nat × zT) := [(27, tGe 5 0 30), (30, tK 15 32), (32, tLd 0 2 33), (33, tAd 34), (34, tAI 35), (35, tLd 0 1 36), (36, tB2 2 60 39), (39, tLd 2 0 40)]
theorem V145_2 : Tkp B145_2 U145_2 := Tkc d_Ge (Tkc (d_K rfl) (Tkc d_LI (Tkc d_Ad (Tkc d_AI (Tkc d_LI (Tkc d_iceq (Tkc d_LA (Tkn))))))))
def U145_3 : List (Nat × zT) := [(40, tCV 5 142 0), (43, tLd 2 0 44), (44, tGe 5 0 47), (47, tK 6 49), (49, tAI 50), (50, tK (-1) 51), (51, tI2 gxx 52), (52, tI2 gxa 53)]
theorem V145_3 : Tkp B145_3 U145_3 := Tkc d_CV (Tkc d_LA (Tkc d_Ge (Tkc (d_K rfl) (Tkc d_AI (Tkc (d_K rfl) (Tkc d_xor (Tkc d_and (Tkn))))))))
def U145_4 : List (Nat × zT) := [(53, tB1 2 60 56), (56, tK 1 57), (57, tGo 61), (60, tK 0 61), (61, tRZ)]
theorem V145_4 : Tkp B145_4 U145_4 := Tkc d_ifeq (Tkc (d_K rfl) (Tkc d_Go (Tkc (d_K rfl) (Tkc d_RZ (Tkn)))))
def U145 : zP := [(11, U145_0), (26, U145_1), (39, U145_2), (52, U145_3), (61, U145_4)]
theorem V145 : Tkb P145 U145 := Tbc V145_0 (Tbc V145_1 (Tbc V145_2 (Tbc V145_3 (Tbc V145_4 (Tbn)))))
def U146_0 : List (Nat × zT) := [(0, tLd 2 0 1), (1, tLd 0 1 2), (2, tCV 5 103 1), (5, tB1 3 15 8), (8, tLd 2 0 9), (9, tK (-2) 11), (11, tCV 5 99 1), (14, tRt 0)]
theorem V146_0 : Tkp B146_0 U146_0 := Tkc d_LA (Tkc d_LI (Tkc d_CV (Tkc d_ifne (Tkc d_LA (Tkc (d_K rfl) (Tkc d_CV (Tkc d_RI (Tkn))))))))
def U146_1 : List (Nat × zT) := [(15, tLd 2 0 16), (16, tLd 0 1 17), (17, tCV 5 145 1), (20, tB1 3 30 23), (23, tLd 2 0 24), (24, tK (-3) 26), (26, tCV 5 99 1), (29, tRt 0)]
theorem V146_1 : Tkp B146_1 U146_1 := Tkc d_LA (Tkc d_LI (Tkc d_CV (Tkc d_ifne (Tkc d_LA (Tkc (d_K rfl) (Tkc d_CV (Tkc d_RI (Tkn))))))))
def U146_2 : List (Nat × zT) := [(30, tLd 2 0 31), (31, tCV 5 101 0), (34, tLd 2 0 35), (35, tGe 5 0 38), (38, tK 5 39), (39, tAI 40), (40, tSt false 0 2 41), (41, tLd 2 0 42)]
theorem V146_2 : Tkp B146_2 U146_2 := Tkc d_LA (Tkc d_CV (Tkc d_LA (Tkc d_Ge (Tkc (d_K rfl) (Tkc d_AI (Tkc (d_SI (i := 2) (nL := 3) (n := 41) rfl) (Tkc d_LA (Tkn))))))))
def U146_3 : List (Nat × zT) := [(42, tGe 5 0 45), (45, tK 15 47), (47, tLd 0 2 48), (48, tAd 49), (49, tK (-1) 50), (50, tAT 51), (51, tLd 2 0 52), (52, tGe 5 0 55)]
theorem V146_3 : Tkp B146_3 U146_3 := Tkc d_Ge (Tkc (d_K rfl) (Tkc d_LI (Tkc d_Ad (Tkc (d_K rfl) (Tkc d_AT (Tkc d_LA (Tkc d_Ge (Tkn))))))))
def U146_4 : List (Nat × zT) := [(55, tK 21 57), (57, tLd 0 2 58), (58, tAd 59), (59, tK (-1) 60), (60, tAT 61), (61, tLd 2 0 62), (62, tGe 5 0 65), (65, tK 4 66)]
theorem V146_4 : Tkp B146_4 U146_4 := Tkc (d_K rfl) (Tkc d_LI (Tkc d_Ad (Tkc (d_K rfl) (Tkc d_AT (Tkc d_LA (Tkc d_Ge (Tkc (d_K rfl) (Tkn))))))))
def U146_5 : List (Nat × zT) := [(66, tD2 67), (67, tAI 68), (68, tK 1 69), (69, tSb 70), (70, tAT 71), (71, tLd 2 0 72), (72, tGe 5 0 75), (75, tK 3 76)]
theorem V146_5 : Tkp B146_5 U146_5 := Tkc d_D2 (Tkc d_AI (Tkc (d_K rfl) (Tkc d_Sb (Tkc d_AT (Tkc d_LA (Tkc d_Ge (Tkc (d_K rfl) (Tkn))))))))
def U146_6 : List (Nat × zT) := [(76, tLd 2 0 77), (77, tGe 5 0 80), (80, tK 6 82), (82, tAI 83), (83, tK 1 84), (84, tLd 0 2 85), (85, tI2 gxl 86), (86, tI2 gxo 87)]
theorem V146_6 : Tkp B146_6 U146_6 := Tkc d_LA (Tkc d_Ge (Tkc (d_K rfl) (Tkc d_AI (Tkc (d_K rfl) (Tkc d_LI (Tkc d_shl (Tkc d_or (Tkn))))))))
def U146_7 : List (Nat × zT) := [(87, tAT 88), (88, tLd 2 0 89), (89, tGe 5 0 92), (92, tK 5 93), (93, tK (-1) 94), (94, tAT 95), (95, tLd 2 0 96), (96, tGe 5 0 99)]
theorem V146_7 : Tkp B146_7 U146_7 := Tkc d_AT (Tkc d_LA (Tkc d_Ge (Tkc (d_K rfl) (Tkc (d_K rfl) (Tkc d_AT (Tkc d_LA (Tkc d_Ge (Tkn))))))))
def U146_8 : List (Nat × zT) := [(99, tK 6 101), (101, tK 0 102), (102, tAT 103), (103, tLd 2 0 104), (104, tGe 5 0 107), (107, tK 8 109), (109, tD2 110), (110, tAI 111)]
theorem V146_8 : Tkp B146_8 U146_8 := Tkc (d_K rfl) (Tkc (d_K rfl) (Tkc d_AT (Tkc d_LA (Tkc d_Ge (Tkc (d_K rfl) (Tkc d_D2 (Tkc d_AI (Tkn))))))))
def U146_9 : List (Nat × zT) := [(111, tK 1 112), (112, tLd 0 1 113), (113, tI2 gxl 114), (114, tK (-1) 115), (115, tI2 gxx 116), (116, tI2 gxa 117), (117, tAT 118), (118, tLd 0 2 119)]
theorem V146_9 : Tkp B146_9 U146_9 := Tkc (d_K rfl) (Tkc d_LI (Tkc d_shl (Tkc (d_K rfl) (Tkc d_xor (Tkc d_and (Tkc d_AT (Tkc d_LI (Tkn))))))))
def U146_10 : List (Nat × zT) := [(119, tRt 0)]
theorem V146_10 : Tkp B146_10 U146_10 := Tkc d_RI (Tkn)
def U146 : zP := [(14, U146_0), (29, U146_1), (41, U146_2), (52, U146_3), (65, U146_4), (75, U146_5), (86, U146_6), (96, U146_7), (110, U146_8), (118, U146_9), (119, U146_10)]
theorem V146 : Tkb P146 U146 := Tbc V146_0 (Tbc V146_1 (Tbc V146_2 (Tbc V146_3 (Tbc V146_4 (Tbc V146_5 (Tbc V146_6 (Tbc V146_7 (Tbc V146_8 (Tbc V146_9 (Tbc V146_10 (Tbn)))))))))))
def U147_0 : List (Nat × zT) := [(0, tK 4 1), (1, tK 16 3), (3, tLd 0 0 4), (4, tI2 gxm 5), (5, tLd 0 1 6), (6, tAd 7), (7, tI2 gxm 8), (8, tRt 0)]
theorem V147_0 : Tkp B147_0 U147_0 := Tkc (d_K rfl) (Tkc (d_K rfl) (Tkc d_LI (Tkc d_mul (Tkc d_LI (Tkc d_Ad (Tkc d_mul (Tkc d_RI (Tkn))))))))
def U147 : zP := [(8, U147_0)]
theorem V147 : Tkb P147 U147 := Tbc V147_0 (Tbn)
def U148_0 : List (Nat × zT) := [(0, tLd 2 0 1), (1, tK 0 2), (2, tPI 5 17 5), (5, tK 0 6), (6, tSt false 0 2 7), (7, tLd 0 2 8), (8, tLd 2 0 9), (9, tGe 5 0 12)]
theorem V148_0 : Tkp B148_0 U148_0 := Tkc d_LA (Tkc (d_K rfl) (Tkc d_PI (Tkc (d_K rfl) (Tkc (d_SI (i := 2) (nL := 4) (n := 7) rfl) (Tkc d_LI (Tkc d_LA (Tkc d_Ge (Tkn))))))))
def U148_1 : List (Nat × zT) := [(12, tK 1 13), (13, tAI 14), (14, tB2 5 102 17), (17, tLd 0 2 18), (18, tLd 0 1 19), (19, tB2 2 96 22), (22, tLd 2 0 23), (23, tGe 5 17 26)]
theorem V148_1 : Tkp B148_1 U148_1 := Tkc (d_K rfl) (Tkc d_AI (Tkc d_icge (Tkc d_LI (Tkc d_LI (Tkc d_iceq (Tkc d_LA (Tkc d_Ge (Tkn))))))))
def U148_2 : List (Nat × zT) := [(26, tSt false 0 3 27), (27, tLd 0 3 28), (28, tB1 1 79 31), (31, tLd 2 0 32), (32, tGe 5 0 35), (35, tK 27 37), (37, tLd 2 0 38), (38, tGe 5 16 41)]
theorem V148_2 : Tkp B148_2 U148_2 := Tkc (d_SI (i := 3) (nL := 4) (n := 27) rfl) (Tkc d_LI (Tkc d_ifle (Tkc d_LA (Tkc d_Ge (Tkc (d_K rfl) (Tkc d_LA (Tkc d_Ge (Tkn))))))))
def U148_3 : List (Nat × zT) := [(41, tLd 0 3 42), (42, tK 1 43), (43, tSb 44), (44, tAI 45), (45, tAd 46), (46, tAI 47), (47, tLd 2 0 48), (48, tGe 5 0 51)]
theorem V148_3 : Tkp B148_3 U148_3 := Tkc d_LI (Tkc (d_K rfl) (Tkc d_Sb (Tkc d_AI (Tkc d_Ad (Tkc d_AI (Tkc d_LA (Tkc d_Ge (Tkn))))))))
def U148_4 : List (Nat × zT) := [(51, tK 27 53), (53, tLd 0 2 54), (54, tAd 55), (55, tAI 56), (56, tB2 5 79 59), (59, tLd 2 0 60), (60, tGe 5 16 63), (63, tLd 0 3 64)]
theorem V148_4 : Tkp B148_4 U148_4 := Tkc (d_K rfl) (Tkc d_LI (Tkc d_Ad (Tkc d_AI (Tkc d_icge (Tkc d_LA (Tkc d_Ge (Tkc d_LI (Tkn))))))))
def U148_5 : List (Nat × zT) := [(64, tLd 2 0 65), (65, tGe 5 16 68), (68, tLd 0 3 69), (69, tK 1 70), (70, tSb 71), (71, tAI 72), (72, tAT 73), (73, tIn 3 (-1) 76)]
theorem V148_5 : Tkp B148_5 U148_5 := Tkc d_LA (Tkc d_Ge (Tkc d_LI (Tkc (d_K rfl) (Tkc d_Sb (Tkc d_AI (Tkc d_AT (Tkc (d_In (i := 3) (x := (-1)) (nL := 4) (n := 76) (c := (-1)) rfl rfl) (Tkn))))))))
def U148_6 : List (Nat × zT) := [(76, tGo 27), (79, tLd 2 0 80), (80, tGe 5 16 83), (83, tLd 0 3 84), (84, tLd 0 2 85), (85, tAT 86), (86, tLd 2 0 87), (87, tDu 88)]
theorem V148_6 : Tkp B148_6 U148_6 := Tkc d_Go (Tkc d_LA (Tkc d_Ge (Tkc d_LI (Tkc d_LI (Tkc d_AT (Tkc d_LA (Tkc d_Du (Tkn))))))))
def U148_7 : List (Nat × zT) := [(88, tGe 5 17 91), (91, tK 1 92), (92, tAd 93), (93, tPI 5 17 96), (96, tIn 2 1 99), (99, tGo 7), (102, tRV)]
theorem V148_7 : Tkp B148_7 U148_7 := Tkc d_Ge (Tkc (d_K rfl) (Tkc d_Ad (Tkc d_PI (Tkc (d_In (i := 2) (x := 1) (nL := 4) (n := 99) (c := 1) rfl rfl) (Tkc d_Go (Tkc d_RV (Tkn)))))))
def U148 : zP := [(9, U148_0), (23, U148_1), (38, U148_2), (48, U148_3), (63, U148_4), (73, U148_5), (87, U148_6), (102, U148_7)]
theorem V148 : Tkb P148 U148 := Tbc V148_0 (Tbc V148_1 (Tbc V148_2 (Tbc V148_3 (Tbc V148_4 (Tbc V148_5 (Tbc V148_6 (Tbc V148_7 (Tbn))))))))
def U149_0 : List (Nat × zT) := [(0, tLd 0 1 1), (1, tK 1 2), (2, tLd 0 5 4), (4, tI2 gxl 5), (5, tK (-1) 6), (6, tI2 gxx 7), (7, tI2 gxa 8), (8, tLd 0 3 9)]
theorem V149_0 : Tkp B149_0 U149_0 := Tkc d_LI (Tkc (d_K rfl) (Tkc d_LI (Tkc d_shl (Tkc (d_K rfl) (Tkc d_xor (Tkc d_and (Tkc d_LI (Tkn))))))))
def U149_1 : List (Nat × zT) := [(9, tCS 147 2), (12, tSt false 0 6 14), (14, tK 0 15), (15, tSt false 0 7 17), (17, tLd 0 7 19), (19, tK 4 20), (20, tB2 5 66 23), (23, tLd 2 0 24)]
theorem V149_1 : Tkp B149_1 U149_1 := Tkc d_CS (Tkc (d_SI (i := 6) (nL := 12) (n := 14) rfl) (Tkc (d_K rfl) (Tkc (d_SI (i := 7) (nL := 12) (n := 17) rfl) (Tkc d_LI (Tkc (d_K rfl) (Tkc d_icge (Tkc d_LA (Tkn))))))))
def U149_2 : List (Nat × zT) := [(24, tGe 5 18 27), (27, tLd 0 7 29), (29, tLd 2 0 30), (30, tGe 5 14 33), (33, tLd 0 6 35), (35, tLd 0 7 37), (37, tAd 38), (38, tAI 39)]
theorem V149_2 : Tkp B149_2 U149_2 := Tkc d_Ge (Tkc d_LI (Tkc d_LA (Tkc d_Ge (Tkc d_LI (Tkc d_LI (Tkc d_Ad (Tkc d_AI (Tkn))))))))
def U149_3 : List (Nat × zT) := [(39, tLd 0 7 41), (41, tLd 0 4 43), (43, tB2 3 57 46), (46, tLd 2 0 47), (47, tLd 0 7 49), (49, tLd 0 5 51), (51, tCV 5 104 2), (54, tGo 58)]
theorem V149_3 : Tkp B149_3 U149_3 := Tkc d_LI (Tkc d_LI (Tkc d_icne (Tkc d_LA (Tkc d_LI (Tkc d_LI (Tkc d_CV (Tkc d_Go (Tkn))))))))
def U149_4 : List (Nat × zT) := [(57, tK 0 58), (58, tAd 59), (59, tAT 60), (60, tIn 7 1 63), (63, tGo 17), (66, tLd 2 0 67), (67, tK (-1) 68), (68, tPI 5 19 71)]
theorem V149_4 : Tkp B149_4 U149_4 := Tkc (d_K rfl) (Tkc d_Ad (Tkc d_AT (Tkc (d_In (i := 7) (x := 1) (nL := 12) (n := 63) (c := 1) rfl rfl) (Tkc d_Go (Tkc d_LA (Tkc (d_K rfl) (Tkc d_PI (Tkn))))))))
def U149_5 : List (Nat × zT) := [(71, tLd 0 1 72), (72, tLd 0 2 73), (73, tK (-1) 74), (74, tI2 gxx 75), (75, tI2 gxa 76), (76, tK 1 77), (77, tLd 0 5 79), (79, tI2 gxl 80)]
theorem V149_5 : Tkp B149_5 U149_5 := Tkc d_LI (Tkc d_LI (Tkc (d_K rfl) (Tkc d_xor (Tkc d_and (Tkc (d_K rfl) (Tkc d_LI (Tkc d_shl (Tkn))))))))
def U149_6 : List (Nat × zT) := [(80, tB2 3 87 83), (83, tK 1 84), (84, tGo 88), (87, tK 0 88), (88, tSt false 0 7 90), (90, tLd 2 0 91), (91, tGe 5 17 94), (94, tK 1 95)]
theorem V149_6 : Tkp B149_6 U149_6 := Tkc d_icne (Tkc (d_K rfl) (Tkc d_Go (Tkc (d_K rfl) (Tkc (d_SI (i := 7) (nL := 12) (n := 90) rfl) (Tkc d_LA (Tkc d_Ge (Tkc (d_K rfl) (Tkn))))))))
def U149_7 : List (Nat × zT) := [(95, tSb 96), (96, tSt false 0 8 98), (98, tLd 0 8 100), (100, tB1 0 218 103), (103, tLd 0 7 105), (105, tB1 3 218 108), (108, tLd 2 0 109), (109, tGe 5 16 112)]
theorem V149_7 : Tkp B149_7 U149_7 := Tkc d_Sb (Tkc (d_SI (i := 8) (nL := 12) (n := 98) rfl) (Tkc d_LI (Tkc d_iflt (Tkc d_LI (Tkc d_ifne (Tkc d_LA (Tkc d_Ge (Tkn))))))))
def U149_8 : List (Nat × zT) := [(112, tLd 0 8 114), (114, tAI 115), (115, tSt false 0 9 117), (117, tLd 0 3 118), (118, tLd 0 9 120), (120, tCS 97 2), (123, tB1 2 146 126), (126, tLd 0 2 127)]
theorem V149_8 : Tkp B149_8 U149_8 := Tkc d_LI (Tkc d_AI (Tkc (d_SI (i := 9) (nL := 12) (n := 117) rfl) (Tkc d_LI (Tkc d_LI (Tkc d_CS (Tkc d_ifeq (Tkc d_LI (Tkn))))))))
def U149_9 : List (Nat × zT) := [(127, tK 1 128), (128, tLd 0 5 130), (130, tI2 gxl 131), (131, tI2 gxo 132), (132, tLd 0 3 133), (133, tK 1 134), (134, tLd 0 9 136), (136, tI2 gxl 137)]
theorem V149_9 : Tkp B149_9 U149_9 := Tkc (d_K rfl) (Tkc d_LI (Tkc d_shl (Tkc d_or (Tkc d_LI (Tkc (d_K rfl) (Tkc d_LI (Tkc d_shl (Tkn))))))))
def U149_10 : List (Nat × zT) := [(137, tK (-1) 138), (138, tI2 gxx 139), (139, tI2 gxa 140), (140, tCS 147 2), (143, tGo 147), (146, tK (-1) 147), (147, tSt false 0 10 149), (149, tLd 0 10 151)]
theorem V149_10 : Tkp B149_10 U149_10 := Tkc (d_K rfl) (Tkc d_xor (Tkc d_and (Tkc d_CS (Tkc d_Go (Tkc (d_K rfl) (Tkc (d_SI (i := 10) (nL := 12) (n := 149) rfl) (Tkc d_LI (Tkn))))))))
def U149_11 : List (Nat × zT) := [(151, tB1 0 212 154), (154, tLd 2 0 155), (155, tGe 5 15 158), (158, tLd 0 10 160), (160, tLd 0 9 162), (162, tAd 163), (163, tAI 164), (164, tLd 2 0 165)]
theorem V149_11 : Tkp B149_11 U149_11 := Tkc d_iflt (Tkc d_LA (Tkc d_Ge (Tkc d_LI (Tkc d_LI (Tkc d_Ad (Tkc d_AI (Tkc d_LA (Tkn))))))))
def U149_12 : List (Nat × zT) := [(165, tGe 5 18 168), (168, tLd 0 9 170), (170, tAI 171), (171, tB2 1 212 174), (174, tLd 2 0 175), (175, tLd 0 9 177), (177, tPI 5 19 180), (180, tK 0 181)]
theorem V149_12 : Tkp B149_12 U149_12 := Tkc d_Ge (Tkc d_LI (Tkc d_AI (Tkc d_icle (Tkc d_LA (Tkc d_LI (Tkc d_PI (Tkc (d_K rfl) (Tkn))))))))
def U149_13 : List (Nat × zT) := [(181, tSt false 0 11 183), (183, tLd 0 11 185), (185, tK 4 186), (186, tB2 5 212 189), (189, tLd 2 0 190), (190, tGe 5 18 193), (193, tLd 0 11 195), (195, tLd 2 0 196)]
theorem V149_13 : Tkp B149_13 U149_13 := Tkc (d_SI (i := 11) (nL := 12) (n := 183) rfl) (Tkc d_LI (Tkc (d_K rfl) (Tkc d_icge (Tkc d_LA (Tkc d_Ge (Tkc d_LI (Tkc d_LA (Tkn))))))))
def U149_14 : List (Nat × zT) := [(196, tGe 5 15 199), (199, tLd 0 10 201), (201, tLd 0 11 203), (203, tAd 204), (204, tAI 205), (205, tAT 206), (206, tIn 11 1 209), (209, tGo 183)]
theorem V149_14 : Tkp B149_14 U149_14 := Tkc d_Ge (Tkc d_LI (Tkc d_LI (Tkc d_Ad (Tkc d_AI (Tkc d_AT (Tkc (d_In (i := 11) (x := 1) (nL := 12) (n := 209) (c := 1) rfl rfl) (Tkc d_Go (Tkn))))))))
def U149_15 : List (Nat × zT) := [(212, tIn 8 (-1) 215), (215, tGo 98), (218, tRV)]
theorem V149_15 : Tkp B149_15 U149_15 := Tkc (d_In (i := 8) (x := (-1)) (nL := 12) (n := 215) (c := (-1)) rfl rfl) (Tkc d_Go (Tkc d_RV (Tkn)))
def U149 : zP := [(8, U149_0), (23, U149_1), (38, U149_2), (54, U149_3), (68, U149_4), (79, U149_5), (94, U149_6), (109, U149_7), (126, U149_8), (136, U149_9), (149, U149_10), (164, U149_11), (180, U149_12), (195, U149_13), (209, U149_14), (218, U149_15)]
theorem V149 : Tkb P149 U149 := Tbc V149_0 (Tbc V149_1 (Tbc V149_2 (Tbc V149_3 (Tbc V149_4 (Tbc V149_5 (Tbc V149_6 (Tbc V149_7 (Tbc V149_8 (Tbc V149_9 (Tbc V149_10 (Tbc V149_11 (Tbc V149_12 (Tbc V149_13 (Tbc V149_14 (Tbc V149_15 (Tbn))))))))))))))))
def U150_0 : List (Nat × zT) := [(0, tK (-1) 1), (1, tSt false 0 5 3), (3, tK 0 4), (4, tSt false 0 6 6), (6, tK 0 7), (7, tSt false 0 7 9), (9, tLd 0 7 11), (11, tK 6 13)]
theorem V150_0 : Tkp B150_0 U150_0 := Tkc (d_K rfl) (Tkc (d_SI (i := 5) (nL := 9) (n := 3) rfl) (Tkc (d_K rfl) (Tkc (d_SI (i := 6) (nL := 9) (n := 6) rfl) (Tkc (d_K rfl) (Tkc (d_SI (i := 7) (nL := 9) (n := 9) rfl) (Tkc d_LI (Tkc (d_K rfl) (Tkn))))))))
def U150_1 : List (Nat × zT) := [(13, tB2 5 104 16), (16, tLd 0 1 17), (17, tLd 0 2 18), (18, tK (-1) 19), (19, tI2 gxx 20), (20, tI2 gxa 21), (21, tLd 0 7 23), (23, tCS 97 2)]
theorem V150_1 : Tkp B150_1 U150_1 := Tkc d_icge (Tkc d_LI (Tkc d_LI (Tkc (d_K rfl) (Tkc d_xor (Tkc d_and (Tkc d_LI (Tkc d_CS (Tkn))))))))
def U150_2 : List (Nat × zT) := [(26, tB1 2 98 29), (29, tLd 2 0 30), (30, tLd 0 1 31), (31, tLd 0 2 32), (32, tLd 0 3 33), (33, tLd 0 4 35), (35, tLd 0 7 37), (37, tCV 5 149 5)]
theorem V150_2 : Tkp B150_2 U150_2 := Tkc d_ifeq (Tkc d_LA (Tkc d_LI (Tkc d_LI (Tkc d_LI (Tkc d_LI (Tkc d_LI (Tkc d_CV (Tkn))))))))
def U150_3 : List (Nat × zT) := [(40, tLd 0 5 42), (42, tK (-1) 43), (43, tB2 2 58 46), (46, tLd 2 0 47), (47, tGe 5 18 50), (50, tLd 0 4 52), (52, tAI 53), (53, tLd 0 6 55)]
theorem V150_3 : Tkp B150_3 U150_3 := Tkc d_LI (Tkc (d_K rfl) (Tkc d_iceq (Tkc d_LA (Tkc d_Ge (Tkc d_LI (Tkc d_AI (Tkc d_LI (Tkn))))))))
def U150_4 : List (Nat × zT) := [(55, tB2 1 62 58), (58, tK 1 59), (59, tGo 63), (62, tK 0 63), (63, tSt false 0 8 65), (65, tLd 0 8 67), (67, tB1 2 80 70), (70, tLd 2 0 71)]
theorem V150_4 : Tkp B150_4 U150_4 := Tkc d_icle (Tkc (d_K rfl) (Tkc d_Go (Tkc (d_K rfl) (Tkc (d_SI (i := 8) (nL := 9) (n := 65) rfl) (Tkc d_LI (Tkc d_ifeq (Tkc d_LA (Tkn))))))))
def U150_5 : List (Nat × zT) := [(71, tGe 5 18 74), (74, tLd 0 4 76), (76, tAI 77), (77, tGo 82), (80, tLd 0 6 82), (82, tSt false 0 6 84), (84, tLd 0 8 86), (86, tB1 2 94 89)]
theorem V150_5 : Tkp B150_5 U150_5 := Tkc d_Ge (Tkc d_LI (Tkc d_AI (Tkc d_Go (Tkc d_LI (Tkc (d_SI (i := 6) (nL := 9) (n := 84) rfl) (Tkc d_LI (Tkc d_ifeq (Tkn))))))))
def U150_6 : List (Nat × zT) := [(89, tLd 0 7 91), (91, tGo 96), (94, tLd 0 5 96), (96, tSt false 0 5 98), (98, tIn 7 1 101), (101, tGo 9), (104, tLd 0 5 106), (106, tRt 0)]
theorem V150_6 : Tkp B150_6 U150_6 := Tkc d_LI (Tkc d_Go (Tkc d_LI (Tkc (d_SI (i := 5) (nL := 9) (n := 98) rfl) (Tkc (d_In (i := 7) (x := 1) (nL := 9) (n := 101) (c := 1) rfl rfl) (Tkc d_Go (Tkc d_LI (Tkc d_RI (Tkn))))))))
def U150 : zP := [(11, U150_0), (23, U150_1), (37, U150_2), (53, U150_3), (70, U150_4), (86, U150_5), (106, U150_6)]
theorem V150 : Tkb P150 U150 := Tbc V150_0 (Tbc V150_1 (Tbc V150_2 (Tbc V150_3 (Tbc V150_4 (Tbc V150_5 (Tbc V150_6 (Tbn)))))))
def U151_0 : List (Nat × zT) := [(0, tLd 2 0 1), (1, tCV 5 125 0), (4, tLd 2 0 5), (5, tGe 5 12 8), (8, tLd 2 0 9), (9, tGe 5 0 12), (12, tK 0 13), (13, tAI 14)]
theorem V151_0 : Tkp B151_0 U151_0 := Tkc d_LA (Tkc d_CV (Tkc d_LA (Tkc d_Ge (Tkc d_LA (Tkc d_Ge (Tkc (d_K rfl) (Tkc d_AI (Tkn))))))))
def U151_1 : List (Nat × zT) := [(14, tLd 0 1 15), (15, tCS 98 1), (18, tSb 19), (19, tAI 20), (20, tSt false 0 2 21), (21, tLd 2 0 22), (22, tLd 0 2 23), (23, tCV 5 148 1)]
theorem V151_1 : Tkp B151_1 U151_1 := Tkc d_LI (Tkc d_CS (Tkc d_Sb (Tkc d_AI (Tkc (d_SI (i := 2) (nL := 7) (n := 21) rfl) (Tkc d_LA (Tkc d_LI (Tkc d_CV (Tkn))))))))
def U151_2 : List (Nat × zT) := [(26, tK 0 27), (27, tSt false 0 3 28), (28, tLd 0 3 29), (29, tK 16 31), (31, tB2 5 129 34), (34, tK 0 35), (35, tSt false 0 4 37), (37, tLd 0 4 39)]
theorem V151_2 : Tkp B151_2 U151_2 := Tkc (d_K rfl) (Tkc (d_SI (i := 3) (nL := 7) (n := 28) rfl) (Tkc d_LI (Tkc (d_K rfl) (Tkc d_icge (Tkc (d_K rfl) (Tkc (d_SI (i := 4) (nL := 7) (n := 37) rfl) (Tkc d_LI (Tkn))))))))
def U151_3 : List (Nat × zT) := [(39, tK 64 41), (41, tB2 5 123 44), (44, tLd 0 4 46), (46, tLd 0 1 47), (47, tK (-1) 48), (48, tI2 gxx 49), (49, tI2 gxa 50), (50, tB1 3 117 53)]
theorem V151_3 : Tkp B151_3 U151_3 := Tkc (d_K rfl) (Tkc d_icge (Tkc d_LI (Tkc d_LI (Tkc (d_K rfl) (Tkc d_xor (Tkc d_and (Tkc d_ifne (Tkn))))))))
def U151_4 : List (Nat × zT) := [(53, tLd 0 4 55), (55, tLd 0 1 56), (56, tB2 2 117 59), (59, tLd 2 0 60), (60, tLd 0 1 61), (61, tLd 0 4 63), (63, tLd 0 3 64), (64, tLd 0 2 65)]
theorem V151_4 : Tkp B151_4 U151_4 := Tkc d_LI (Tkc d_LI (Tkc d_iceq (Tkc d_LA (Tkc d_LI (Tkc d_LI (Tkc d_LI (Tkc d_LI (Tkn))))))))
def U151_5 : List (Nat × zT) := [(65, tCV 5 150 4), (68, tSt false 0 5 70), (70, tLd 2 0 71), (71, tLd 0 1 72), (72, tLd 0 4 74), (74, tLd 0 3 75), (75, tLd 0 2 76), (76, tLd 0 5 78)]
theorem V151_5 : Tkp B151_5 U151_5 := Tkc d_CV (Tkc (d_SI (i := 5) (nL := 7) (n := 70) rfl) (Tkc d_LA (Tkc d_LI (Tkc d_LI (Tkc d_LI (Tkc d_LI (Tkc d_LI (Tkn))))))))
def U151_6 : List (Nat × zT) := [(78, tCV 5 149 5), (81, tK 0 82), (82, tSt false 0 6 84), (84, tLd 0 6 86), (86, tK 4 87), (87, tB2 5 117 90), (90, tLd 2 0 91), (91, tGe 5 15 94)]
theorem V151_6 : Tkp B151_6 U151_6 := Tkc d_CV (Tkc (d_K rfl) (Tkc (d_SI (i := 6) (nL := 7) (n := 84) rfl) (Tkc d_LI (Tkc (d_K rfl) (Tkc d_icge (Tkc d_LA (Tkc d_Ge (Tkn))))))))
def U151_7 : List (Nat × zT) := [(94, tLd 0 4 96), (96, tLd 0 3 97), (97, tCS 147 2), (100, tLd 0 6 102), (102, tAd 103), (103, tLd 2 0 104), (104, tGe 5 18 107), (107, tLd 0 6 109)]
theorem V151_7 : Tkp B151_7 U151_7 := Tkc d_LI (Tkc d_LI (Tkc d_CS (Tkc d_LI (Tkc d_Ad (Tkc d_LA (Tkc d_Ge (Tkc d_LI (Tkn))))))))
def U151_8 : List (Nat × zT) := [(109, tAI 110), (110, tAT 111), (111, tIn 6 1 114), (114, tGo 84), (117, tIn 4 1 120), (120, tGo 37), (123, tIn 3 1 126), (126, tGo 28)]
theorem V151_8 : Tkp B151_8 U151_8 := Tkc d_AI (Tkc d_AT (Tkc (d_In (i := 6) (x := 1) (nL := 7) (n := 114) (c := 1) rfl rfl) (Tkc d_Go (Tkc (d_In (i := 4) (x := 1) (nL := 7) (n := 120) (c := 1) rfl rfl) (Tkc d_Go (Tkc (d_In (i := 3) (x := 1) (nL := 7) (n := 126) (c := 1) rfl rfl) (Tkc d_Go (Tkn))))))))
def U151_9 : List (Nat × zT) := [(129, tRV)]
theorem V151_9 : Tkp B151_9 U151_9 := Tkc d_RV (Tkn)
def U151 : zP := [(13, U151_0), (23, U151_1), (37, U151_2), (50, U151_3), (64, U151_4), (76, U151_5), (91, U151_6), (107, U151_7), (126, U151_8), (129, U151_9)]
theorem V151 : Tkb P151 U151 := Tbc V151_0 (Tbc V151_1 (Tbc V151_2 (Tbc V151_3 (Tbc V151_4 (Tbc V151_5 (Tbc V151_6 (Tbc V151_7 (Tbc V151_8 (Tbc V151_9 (Tbn))))))))))
def U152_0 : List (Nat × zT) := [(0, tK 0 1), (1, tSt false 0 2 2), (2, tLd 0 2 3), (3, tK 64 5), (5, tB2 5 21 8), (8, tLd 2 0 9), (9, tGe 5 14 12), (12, tLd 0 2 13)]
theorem V152_0 : Tkp B152_0 U152_0 := Tkc (d_K rfl) (Tkc (d_SI (i := 2) (nL := 4) (n := 2) rfl) (Tkc d_LI (Tkc (d_K rfl) (Tkc d_icge (Tkc d_LA (Tkc d_Ge (Tkc d_LI (Tkn))))))))
def U152_1 : List (Nat × zT) := [(13, tK 0 14), (14, tAT 15), (15, tIn 2 1 18), (18, tGo 2), (21, tK 1 22), (22, tSt false 0 2 23), (23, tLd 0 2 24), (24, tLd 0 1 25)]
theorem V152_1 : Tkp B152_1 U152_1 := Tkc (d_K rfl) (Tkc d_AT (Tkc (d_In (i := 2) (x := 1) (nL := 4) (n := 18) (c := 1) rfl rfl) (Tkc d_Go (Tkc (d_K rfl) (Tkc (d_SI (i := 2) (nL := 4) (n := 23) rfl) (Tkc d_LI (Tkc d_LI (Tkn))))))))
def U152_2 : List (Nat × zT) := [(25, tB2 4 78 28), (28, tLd 0 2 29), (29, tLd 0 1 30), (30, tK (-1) 31), (31, tI2 gxx 32), (32, tI2 gxa 33), (33, tB1 3 72 36), (36, tLd 2 0 37)]
theorem V152_2 : Tkp B152_2 U152_2 := Tkc d_icgt (Tkc d_LI (Tkc d_LI (Tkc (d_K rfl) (Tkc d_xor (Tkc d_and (Tkc d_ifne (Tkc d_LA (Tkn))))))))
def U152_3 : List (Nat × zT) := [(37, tLd 0 2 38), (38, tCV 5 151 1), (41, tK 0 42), (42, tSt false 0 3 43), (43, tLd 0 3 44), (44, tK 64 46), (46, tB2 5 72 49), (49, tLd 2 0 50)]
theorem V152_3 : Tkp B152_3 U152_3 := Tkc d_LI (Tkc d_CV (Tkc (d_K rfl) (Tkc (d_SI (i := 3) (nL := 4) (n := 43) rfl) (Tkc d_LI (Tkc (d_K rfl) (Tkc d_icge (Tkc d_LA (Tkn))))))))
def U152_4 : List (Nat × zT) := [(50, tGe 5 14 53), (53, tK 64 55), (55, tLd 0 2 56), (56, tI2 gxm 57), (57, tLd 0 3 58), (58, tAd 59), (59, tLd 2 0 60), (60, tGe 5 15 63)]
theorem V152_4 : Tkp B152_4 U152_4 := Tkc d_Ge (Tkc (d_K rfl) (Tkc d_LI (Tkc d_mul (Tkc d_LI (Tkc d_Ad (Tkc d_LA (Tkc d_Ge (Tkn))))))))
def U152_5 : List (Nat × zT) := [(63, tLd 0 3 64), (64, tAI 65), (65, tAT 66), (66, tIn 3 1 69), (69, tGo 43), (72, tIn 2 1 75), (75, tGo 23), (78, tRV)]
theorem V152_5 : Tkp B152_5 U152_5 := Tkc d_LI (Tkc d_AI (Tkc d_AT (Tkc (d_In (i := 3) (x := 1) (nL := 4) (n := 69) (c := 1) rfl rfl) (Tkc d_Go (Tkc (d_In (i := 2) (x := 1) (nL := 4) (n := 75) (c := 1) rfl rfl) (Tkc d_Go (Tkc d_RV (Tkn))))))))
def U152 : zP := [(12, U152_0), (24, U152_1), (36, U152_2), (49, U152_3), (60, U152_4), (78, U152_5)]
theorem V152 : Tkb P152 U152 := Tbc V152_0 (Tbc V152_1 (Tbc V152_2 (Tbc V152_3 (Tbc V152_4 (Tbc V152_5 (Tbn))))))
