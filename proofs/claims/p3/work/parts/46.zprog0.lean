/-! the checker's programs of the methods, printed -/
def U1_0 : List (Nat × zT) := [(0, tLd 0 1 1), (1, tB1 0 16 4), (4, tLd 0 1 5), (5, tLd 2 0 6), (6, tGe 0 0 9), (9, tB2 5 16 12), (12, tK 1 13), (13, tGo 17)]
theorem V1_0 : Tkp B1_0 U1_0 := Tkc d_LI (Tkc d_iflt (Tkc d_LI (Tkc d_LA (Tkc d_Ge (Tkc d_icge (Tkc (d_K rfl) (Tkc d_Go (Tkn))))))))
def U1_1 : List (Nat × zT) := [(16, tK 0 17), (17, tRZ)]
theorem V1_1 : Tkp B1_1 U1_1 := Tkc (d_K rfl) (Tkc d_RZ (Tkn))
def U1 : zP := [(13, U1_0), (17, U1_1)]
theorem V1 : Tkb P1 U1 := Tbc V1_0 (Tbc V1_1 (Tbn))
def U2_0 : List (Nat × zT) := [(0, tLd 0 1 1), (1, tB1 0 16 4), (4, tLd 0 1 5), (5, tLd 2 0 6), (6, tGe 0 2 9), (9, tB2 5 16 12), (12, tK 1 13), (13, tGo 17)]
theorem V2_0 : Tkp B2_0 U2_0 := Tkc d_LI (Tkc d_iflt (Tkc d_LI (Tkc d_LA (Tkc d_Ge (Tkc d_icge (Tkc (d_K rfl) (Tkc d_Go (Tkn))))))))
def U2_1 : List (Nat × zT) := [(16, tK 0 17), (17, tRZ)]
theorem V2_1 : Tkp B2_1 U2_1 := Tkc (d_K rfl) (Tkc d_RZ (Tkn))
def U2 : zP := [(13, U2_0), (17, U2_1)]
theorem V2 : Tkb P2 U2 := Tbc V2_0 (Tbc V2_1 (Tbn))
def U3_0 : List (Nat × zT) := [(0, tLd 0 1 1), (1, tK 6 3), (3, tI2 gxm 4), (4, tLd 0 2 5), (5, tAd 6), (6, tSt false 0 3 7), (7, tLd 0 3 8), (8, tB1 0 29 11)]
theorem V3_0 : Tkp B3_0 U3_0 := Tkc d_LI (Tkc (d_K rfl) (Tkc d_mul (Tkc d_LI (Tkc d_Ad (Tkc (d_SI (i := 3) (nL := 4) (n := 7) rfl) (Tkc d_LI (Tkc d_iflt (Tkn))))))))
def U3_1 : List (Nat × zT) := [(11, tLd 0 3 12), (12, tLd 2 0 13), (13, tGe 0 4 16), (16, tAn 17), (17, tB2 5 29 20), (20, tLd 2 0 21), (21, tGe 0 4 24), (24, tLd 0 3 25)]
theorem V3_1 : Tkp B3_1 U3_1 := Tkc d_LI (Tkc d_LA (Tkc d_Ge (Tkc d_An (Tkc d_icge (Tkc d_LA (Tkc d_Ge (Tkc d_LI (Tkn))))))))
def U3_2 : List (Nat × zT) := [(25, tAI 26), (26, tGo 30), (29, tK 0 30), (30, tRt 0)]
theorem V3_2 : Tkp B3_2 U3_2 := Tkc d_AI (Tkc d_Go (Tkc (d_K rfl) (Tkc d_RI (Tkn))))
def U3 : zP := [(8, U3_0), (24, U3_1), (30, U3_2)]
theorem V3 : Tkb P3 U3 := Tbc V3_0 (Tbc V3_1 (Tbc V3_2 (Tbn)))
def U4_0 : List (Nat × zT) := [(0, tLd 0 1 1), (1, tK 6 3), (3, tI2 gxm 4), (4, tLd 0 2 5), (5, tAd 6), (6, tSt false 0 4 8), (8, tLd 0 4 10), (10, tB1 0 31 13)]
theorem V4_0 : Tkp B4_0 U4_0 := Tkc d_LI (Tkc (d_K rfl) (Tkc d_mul (Tkc d_LI (Tkc d_Ad (Tkc (d_SI (i := 4) (nL := 5) (n := 8) rfl) (Tkc d_LI (Tkc d_iflt (Tkn))))))))
def U4_1 : List (Nat × zT) := [(13, tLd 0 4 15), (15, tLd 2 0 16), (16, tGe 0 4 19), (19, tAn 20), (20, tB2 5 31 23), (23, tLd 2 0 24), (24, tGe 0 4 27), (27, tLd 0 4 29)]
theorem V4_1 : Tkp B4_1 U4_1 := Tkc d_LI (Tkc d_LA (Tkc d_Ge (Tkc d_An (Tkc d_icge (Tkc d_LA (Tkc d_Ge (Tkc d_LI (Tkn))))))))
def U4_2 : List (Nat × zT) := [(29, tLd 0 3 30), (30, tAT 31), (31, tRV)]
theorem V4_2 : Tkp B4_2 U4_2 := Tkc d_LI (Tkc d_AT (Tkc d_RV (Tkn)))
def U4 : zP := [(10, U4_0), (27, U4_1), (31, U4_2)]
theorem V4 : Tkb P4 U4 := Tbc V4_0 (Tbc V4_1 (Tbc V4_2 (Tbn)))
def U5_0 : List (Nat × zT) := [(0, tLd 2 0 1), (1, tGe 0 2 4), (4, tB1 3 11 7), (7, tK 0 8), (8, tGo 15), (11, tLd 2 0 12), (12, tGe 0 0 15), (15, tRt 0)]
theorem V5_0 : Tkp B5_0 U5_0 := Tkc d_LA (Tkc d_Ge (Tkc d_ifne (Tkc (d_K rfl) (Tkc d_Go (Tkc d_LA (Tkc d_Ge (Tkc d_RI (Tkn))))))))
def U5 : zP := [(15, U5_0)]
theorem V5 : Tkb P5 U5 := Tbc V5_0 (Tbn)
def U6_0 : List (Nat × zT) := [(0, tLd 0 1 1), (1, tB1 0 19 4), (4, tLd 0 1 5), (5, tK 6 7), (7, tB2 5 19 10), (10, tLd 2 0 11), (11, tGe 0 8 14), (14, tLd 0 1 15)]
theorem V6_0 : Tkp B6_0 U6_0 := Tkc d_LI (Tkc d_iflt (Tkc d_LI (Tkc (d_K rfl) (Tkc d_icge (Tkc d_LA (Tkc d_Ge (Tkc d_LI (Tkn))))))))
def U6_1 : List (Nat × zT) := [(15, tAI 16), (16, tGo 20), (19, tK (-1) 20), (20, tRt 0)]
theorem V6_1 : Tkp B6_1 U6_1 := Tkc d_AI (Tkc d_Go (Tkc (d_K rfl) (Tkc d_RI (Tkn))))
def U6 : zP := [(14, U6_0), (20, U6_1)]
theorem V6 : Tkb P6 U6 := Tbc V6_0 (Tbc V6_1 (Tbn))
def U7_0 : List (Nat × zT) := [(0, tK 0 1), (1, tSt false 0 2 2), (2, tK 0 3), (3, tSt false 0 3 4), (4, tLd 0 3 5), (5, tLd 2 0 6), (6, tGe 0 12 9), (9, tB2 5 30 12)]
theorem V7_0 : Tkp B7_0 U7_0 := Tkc (d_K rfl) (Tkc (d_SI (i := 2) (nL := 4) (n := 2) rfl) (Tkc (d_K rfl) (Tkc (d_SI (i := 3) (nL := 4) (n := 4) rfl) (Tkc d_LI (Tkc d_LA (Tkc d_Ge (Tkc d_icge (Tkn))))))))
def U7_1 : List (Nat × zT) := [(12, tLd 2 0 13), (13, tLd 0 3 14), (14, tCV 0 6 1), (17, tLd 0 1 18), (18, tB2 3 24 21), (21, tIn 2 1 24), (24, tIn 3 1 27), (27, tGo 4)]
theorem V7_1 : Tkp B7_1 U7_1 := Tkc d_LA (Tkc d_LI (Tkc d_CV (Tkc d_LI (Tkc d_icne (Tkc (d_In (i := 2) (x := 1) (nL := 4) (n := 24) (c := 1) rfl rfl) (Tkc (d_In (i := 3) (x := 1) (nL := 4) (n := 27) (c := 1) rfl rfl) (Tkc d_Go (Tkn))))))))
def U7_2 : List (Nat × zT) := [(30, tLd 0 2 31), (31, tRt 0)]
theorem V7_2 : Tkp B7_2 U7_2 := Tkc d_LI (Tkc d_RI (Tkn))
def U7 : zP := [(9, U7_0), (27, U7_1), (31, U7_2)]
theorem V7 : Tkb P7 U7 := Tbc V7_0 (Tbc V7_1 (Tbc V7_2 (Tbn)))
def U8_0 : List (Nat × zT) := [(0, tK 0 1), (1, tSt false 0 2 2), (2, tK 0 3), (3, tSt false 0 3 4), (4, tLd 0 3 5), (5, tLd 2 0 6), (6, tGe 0 0 9), (9, tB2 5 37 12)]
theorem V8_0 : Tkp B8_0 U8_0 := Tkc (d_K rfl) (Tkc (d_SI (i := 2) (nL := 4) (n := 2) rfl) (Tkc (d_K rfl) (Tkc (d_SI (i := 3) (nL := 4) (n := 4) rfl) (Tkc d_LI (Tkc d_LA (Tkc d_Ge (Tkc d_icge (Tkn))))))))
def U8_1 : List (Nat × zT) := [(12, tLd 2 0 13), (13, tGe 0 13 16), (16, tLd 0 3 17), (17, tAI 18), (18, tLd 0 1 19), (19, tB2 3 31 22), (22, tLd 0 2 23), (23, tLd 2 0 24)]
theorem V8_1 : Tkp B8_1 U8_1 := Tkc d_LA (Tkc d_Ge (Tkc d_LI (Tkc d_AI (Tkc d_LI (Tkc d_icne (Tkc d_LI (Tkc d_LA (Tkn))))))))
def U8_2 : List (Nat × zT) := [(24, tLd 0 1 25), (25, tLd 0 3 26), (26, tCV 0 3 2), (29, tAd 30), (30, tSt false 0 2 31), (31, tIn 3 1 34), (34, tGo 4), (37, tLd 0 2 38)]
theorem V8_2 : Tkp B8_2 U8_2 := Tkc d_LI (Tkc d_LI (Tkc d_CV (Tkc d_Ad (Tkc (d_SI (i := 2) (nL := 4) (n := 31) rfl) (Tkc (d_In (i := 3) (x := 1) (nL := 4) (n := 34) (c := 1) rfl rfl) (Tkc d_Go (Tkc d_LI (Tkn))))))))
def U8_3 : List (Nat × zT) := [(38, tRt 0)]
theorem V8_3 : Tkp B8_3 U8_3 := Tkc d_RI (Tkn)
def U8 : zP := [(9, U8_0), (23, U8_1), (37, U8_2), (38, U8_3)]
theorem V8 : Tkb P8 U8 := Tbc V8_0 (Tbc V8_1 (Tbc V8_2 (Tbc V8_3 (Tbn))))
def U9_0 : List (Nat × zT) := [(0, tK 0 1), (1, tSt false 0 2 2), (2, tK 0 3), (3, tSt false 0 3 4), (4, tLd 0 3 5), (5, tLd 2 0 6), (6, tGe 0 0 9), (9, tB2 5 27 12)]
theorem V9_0 : Tkp B9_0 U9_0 := Tkc (d_K rfl) (Tkc (d_SI (i := 2) (nL := 4) (n := 2) rfl) (Tkc (d_K rfl) (Tkc (d_SI (i := 3) (nL := 4) (n := 4) rfl) (Tkc d_LI (Tkc d_LA (Tkc d_Ge (Tkc d_icge (Tkn))))))))
def U9_1 : List (Nat × zT) := [(12, tLd 0 2 13), (13, tLd 2 0 14), (14, tLd 0 1 15), (15, tLd 0 3 16), (16, tCV 0 3 2), (19, tAd 20), (20, tSt false 0 2 21), (21, tIn 3 1 24)]
theorem V9_1 : Tkp B9_1 U9_1 := Tkc d_LI (Tkc d_LA (Tkc d_LI (Tkc d_LI (Tkc d_CV (Tkc d_Ad (Tkc (d_SI (i := 2) (nL := 4) (n := 21) rfl) (Tkc (d_In (i := 3) (x := 1) (nL := 4) (n := 24) (c := 1) rfl rfl) (Tkn))))))))
def U9_2 : List (Nat × zT) := [(24, tGo 4), (27, tLd 0 2 28), (28, tRt 0)]
theorem V9_2 : Tkp B9_2 U9_2 := Tkc d_Go (Tkc d_LI (Tkc d_RI (Tkn)))
def U9 : zP := [(9, U9_0), (21, U9_1), (28, U9_2)]
theorem V9 : Tkb P9 U9 := Tbc V9_0 (Tbc V9_1 (Tbc V9_2 (Tbn)))
def U10_0 : List (Nat × zT) := [(0, tK 0 1), (1, tSt false 0 1 2), (2, tK 0 3), (3, tSt false 0 2 4), (4, tLd 0 2 5), (5, tLd 2 0 6), (6, tGe 0 0 9), (9, tB2 5 27 12)]
theorem V10_0 : Tkp B10_0 U10_0 := Tkc (d_K rfl) (Tkc (d_SI (i := 1) (nL := 3) (n := 2) rfl) (Tkc (d_K rfl) (Tkc (d_SI (i := 2) (nL := 3) (n := 4) rfl) (Tkc d_LI (Tkc d_LA (Tkc d_Ge (Tkc d_icge (Tkn))))))))
def U10_1 : List (Nat × zT) := [(12, tLd 0 1 13), (13, tLd 2 0 14), (14, tGe 0 1 17), (17, tLd 0 2 18), (18, tAI 19), (19, tI2 gxo 20), (20, tSt false 0 1 21), (21, tIn 2 1 24)]
theorem V10_1 : Tkp B10_1 U10_1 := Tkc d_LI (Tkc d_LA (Tkc d_Ge (Tkc d_LI (Tkc d_AI (Tkc d_or (Tkc (d_SI (i := 1) (nL := 3) (n := 21) rfl) (Tkc (d_In (i := 2) (x := 1) (nL := 3) (n := 24) (c := 1) rfl rfl) (Tkn))))))))
def U10_2 : List (Nat × zT) := [(24, tGo 4), (27, tLd 0 1 28), (28, tRt 0)]
theorem V10_2 : Tkp B10_2 U10_2 := Tkc d_Go (Tkc d_LI (Tkc d_RI (Tkn)))
def U10 : zP := [(9, U10_0), (21, U10_1), (28, U10_2)]
theorem V10 : Tkb P10 U10 := Tbc V10_0 (Tbc V10_1 (Tbc V10_2 (Tbn)))
def U11_0 : List (Nat × zT) := [(0, tK 0 1), (1, tSt false 0 1 2), (2, tK 0 3), (3, tSt false 0 2 4), (4, tLd 0 2 5), (5, tLd 2 0 6), (6, tGe 0 0 9), (9, tB2 5 34 12)]
theorem V11_0 : Tkp B11_0 U11_0 := Tkc (d_K rfl) (Tkc (d_SI (i := 1) (nL := 3) (n := 2) rfl) (Tkc (d_K rfl) (Tkc (d_SI (i := 2) (nL := 3) (n := 4) rfl) (Tkc d_LI (Tkc d_LA (Tkc d_Ge (Tkc d_icge (Tkn))))))))
def U11_1 : List (Nat × zT) := [(12, tLd 2 0 13), (13, tGe 0 13 16), (16, tLd 0 2 17), (17, tAI 18), (18, tK (-1) 19), (19, tB2 3 28 22), (22, tLd 0 1 23), (23, tK 1 24)]
theorem V11_1 : Tkp B11_1 U11_1 := Tkc d_LA (Tkc d_Ge (Tkc d_LI (Tkc d_AI (Tkc (d_K rfl) (Tkc d_icne (Tkc d_LI (Tkc (d_K rfl) (Tkn))))))))
def U11_2 : List (Nat × zT) := [(24, tLd 0 2 25), (25, tI2 gxl 26), (26, tI2 gxo 27), (27, tSt false 0 1 28), (28, tIn 2 1 31), (31, tGo 4), (34, tLd 0 1 35), (35, tRt 0)]
theorem V11_2 : Tkp B11_2 U11_2 := Tkc d_LI (Tkc d_shl (Tkc d_or (Tkc (d_SI (i := 1) (nL := 3) (n := 28) rfl) (Tkc (d_In (i := 2) (x := 1) (nL := 3) (n := 31) (c := 1) rfl rfl) (Tkc d_Go (Tkc d_LI (Tkc d_RI (Tkn))))))))
def U11 : zP := [(9, U11_0), (23, U11_1), (35, U11_2)]
theorem V11 : Tkb P11 U11 := Tbc V11_0 (Tbc V11_1 (Tbc V11_2 (Tbn)))
def U12_0 : List (Nat × zT) := [(0, tLd 2 0 1), (1, tK 0 2), (2, tPI 0 0 5), (5, tLd 2 0 6), (6, tK 0 7), (7, tPI 0 2 10), (10, tLd 2 0 11), (11, tK 0 12)]
theorem V12_0 : Tkp B12_0 U12_0 := Tkc d_LA (Tkc (d_K rfl) (Tkc d_PI (Tkc d_LA (Tkc (d_K rfl) (Tkc d_PI (Tkc d_LA (Tkc (d_K rfl) (Tkn))))))))
def U12_1 : List (Nat × zT) := [(12, tPI 0 5 15), (15, tLd 2 0 16), (16, tK 0 17), (17, tPI 0 6 20), (20, tRV)]
theorem V12_1 : Tkp B12_1 U12_1 := Tkc d_PI (Tkc d_LA (Tkc (d_K rfl) (Tkc d_PI (Tkc d_RV (Tkn)))))
def U12 : zP := [(11, U12_0), (20, U12_1)]
theorem V12 : Tkb P12 U12 := Tbc V12_0 (Tbc V12_1 (Tbn))
def U13_0 : List (Nat × zT) := [(0, tLd 2 0 1), (1, tGe 0 0 4), (4, tK 6 6), (6, tB2 5 29 9), (9, tLd 2 0 10), (10, tGe 0 1 13), (13, tLd 2 0 14), (14, tGe 0 0 17)]
theorem V13_0 : Tkp B13_0 U13_0 := Tkc d_LA (Tkc d_Ge (Tkc (d_K rfl) (Tkc d_icge (Tkc d_LA (Tkc d_Ge (Tkc d_LA (Tkc d_Ge (Tkn))))))))
def U13_1 : List (Nat × zT) := [(17, tLd 0 1 18), (18, tAT 19), (19, tLd 2 0 20), (20, tDu 21), (21, tGe 0 0 24), (24, tK 1 25), (25, tAd 26), (26, tPI 0 0 29)]
theorem V13_1 : Tkp B13_1 U13_1 := Tkc d_LI (Tkc d_AT (Tkc d_LA (Tkc d_Du (Tkc d_Ge (Tkc (d_K rfl) (Tkc d_Ad (Tkc d_PI (Tkn))))))))
def U13_2 : List (Nat × zT) := [(29, tRV)]
theorem V13_2 : Tkp B13_2 U13_2 := Tkc d_RV (Tkn)
def U13 : zP := [(14, U13_0), (26, U13_1), (29, U13_2)]
theorem V13 : Tkb P13 U13 := Tbc V13_0 (Tbc V13_1 (Tbc V13_2 (Tbn)))
def U14_0 : List (Nat × zT) := [(0, tLd 2 0 1), (1, tGe 0 2 4), (4, tK 4 5), (5, tB2 5 37 8), (8, tLd 0 1 9), (9, tB1 2 27 12), (12, tLd 2 0 13), (13, tDu 14)]
theorem V14_0 : Tkp B14_0 U14_0 := Tkc d_LA (Tkc d_Ge (Tkc (d_K rfl) (Tkc d_icge (Tkc d_LI (Tkc d_ifeq (Tkc d_LA (Tkc d_Du (Tkn))))))))
def U14_1 : List (Nat × zT) := [(14, tGe 0 5 17), (17, tK 1 18), (18, tLd 2 0 19), (19, tGe 0 2 22), (22, tI2 gxl 23), (23, tI2 gxo 24), (24, tPI 0 5 27), (27, tLd 2 0 28)]
theorem V14_1 : Tkp B14_1 U14_1 := Tkc d_Ge (Tkc (d_K rfl) (Tkc d_LA (Tkc d_Ge (Tkc d_shl (Tkc d_or (Tkc d_PI (Tkc d_LA (Tkn))))))))
def U14_2 : List (Nat × zT) := [(28, tDu 29), (29, tGe 0 2 32), (32, tK 1 33), (33, tAd 34), (34, tPI 0 2 37), (37, tRV)]
theorem V14_2 : Tkp B14_2 U14_2 := Tkc d_Du (Tkc d_Ge (Tkc (d_K rfl) (Tkc d_Ad (Tkc d_PI (Tkc d_RV (Tkn))))))
def U14 : zP := [(13, U14_0), (27, U14_1), (37, U14_2)]
theorem V14 : Tkb P14 U14 := Tbc V14_0 (Tbc V14_1 (Tbc V14_2 (Tbn)))
def U15_0 : List (Nat × zT) := [(0, tLd 2 0 1), (1, tGe 0 1 4), (4, tLd 0 1 5), (5, tD2 6), (6, tAI 7), (7, tLd 2 0 8), (8, tGe 0 1 11), (11, tLd 0 2 12)]
theorem V15_0 : Tkp B15_0 U15_0 := Tkc d_LA (Tkc d_Ge (Tkc d_LI (Tkc d_D2 (Tkc d_AI (Tkc d_LA (Tkc d_Ge (Tkc d_LI (Tkn))))))))
def U15_1 : List (Nat × zT) := [(12, tAI 13), (13, tI2 gxo 14), (14, tAT 15), (15, tK 0 16), (16, tSt false 0 3 17), (17, tLd 0 3 18), (18, tLd 2 0 19), (19, tGe 0 2 22)]
theorem V15_1 : Tkp B15_1 U15_1 := Tkc d_AI (Tkc d_or (Tkc d_AT (Tkc (d_K rfl) (Tkc (d_SI (i := 3) (nL := 4) (n := 17) rfl) (Tkc d_LI (Tkc d_LA (Tkc d_Ge (Tkn))))))))
def U15_2 : List (Nat × zT) := [(22, tB2 5 55 25), (25, tLd 2 0 26), (26, tLd 0 3 27), (27, tLd 0 1 28), (28, tK 99 30), (30, tLd 2 0 31), (31, tLd 0 3 32), (32, tLd 0 1 33)]
theorem V15_2 : Tkp B15_2 U15_2 := Tkc d_icge (Tkc d_LA (Tkc d_LI (Tkc d_LI (Tkc (d_K rfl) (Tkc d_LA (Tkc d_LI (Tkc d_LI (Tkn))))))))
def U15_3 : List (Nat × zT) := [(33, tCV 0 3 2), (36, tLd 2 0 37), (37, tLd 0 3 38), (38, tLd 0 2 39), (39, tCV 0 3 2), (42, tAd 43), (43, tMM imin 46), (46, tCV 0 4 3)]
theorem V15_3 : Tkp B15_3 U15_3 := Tkc d_CV (Tkc d_LA (Tkc d_LI (Tkc d_LI (Tkc d_CV (Tkc d_Ad (Tkc d_Mn (Tkc d_CV (Tkn))))))))
def U15_4 : List (Nat × zT) := [(49, tIn 3 1 52), (52, tGo 17), (55, tLd 2 0 56), (56, tLd 0 2 57), (57, tCV 0 16 1), (60, tRV)]
theorem V15_4 : Tkp B15_4 U15_4 := Tkc (d_In (i := 3) (x := 1) (nL := 4) (n := 52) (c := 1) rfl rfl) (Tkc d_Go (Tkc d_LA (Tkc d_LI (Tkc d_CV (Tkc d_RV (Tkn))))))
def U15 : zP := [(11, U15_0), (19, U15_1), (32, U15_2), (46, U15_3), (60, U15_4)]
theorem V15 : Tkb P15 U15 := Tbc V15_0 (Tbc V15_1 (Tbc V15_2 (Tbc V15_3 (Tbc V15_4 (Tbn)))))
def U16_0 : List (Nat × zT) := [(0, tLd 2 0 1), (1, tDu 2), (2, tGe 0 0 5), (5, tK 1 6), (6, tSb 7), (7, tPI 0 0 10), (10, tLd 0 1 11), (11, tSt false 0 2 12)]
theorem V16_0 : Tkp B16_0 U16_0 := Tkc d_LA (Tkc d_Du (Tkc d_Ge (Tkc (d_K rfl) (Tkc d_Sb (Tkc d_PI (Tkc d_LI (Tkc (d_SI (i := 2) (nL := 4) (n := 12) rfl) (Tkn))))))))
def U16_1 : List (Nat × zT) := [(12, tLd 0 2 13), (13, tLd 2 0 14), (14, tGe 0 0 17), (17, tB2 5 70 20), (20, tLd 2 0 21), (21, tGe 0 1 24), (24, tLd 0 2 25), (25, tLd 2 0 26)]
theorem V16_1 : Tkp B16_1 U16_1 := Tkc d_LI (Tkc d_LA (Tkc d_Ge (Tkc d_icge (Tkc d_LA (Tkc d_Ge (Tkc d_LI (Tkc d_LA (Tkn))))))))
def U16_2 : List (Nat × zT) := [(26, tGe 0 1 29), (29, tLd 0 2 30), (30, tK 1 31), (31, tAd 32), (32, tAI 33), (33, tAT 34), (34, tK 0 35), (35, tSt false 0 3 36)]
theorem V16_2 : Tkp B16_2 U16_2 := Tkc d_Ge (Tkc d_LI (Tkc (d_K rfl) (Tkc d_Ad (Tkc d_AI (Tkc d_AT (Tkc (d_K rfl) (Tkc (d_SI (i := 3) (nL := 4) (n := 36) rfl) (Tkn))))))))
def U16_3 : List (Nat × zT) := [(36, tLd 0 3 37), (37, tLd 2 0 38), (38, tGe 0 2 41), (41, tB2 5 64 44), (44, tLd 2 0 45), (45, tLd 0 3 46), (46, tLd 0 2 47), (47, tLd 2 0 48)]
theorem V16_3 : Tkp B16_3 U16_3 := Tkc d_LI (Tkc d_LA (Tkc d_Ge (Tkc d_icge (Tkc d_LA (Tkc d_LI (Tkc d_LI (Tkc d_LA (Tkn))))))))
def U16_4 : List (Nat × zT) := [(48, tLd 0 3 49), (49, tLd 0 2 50), (50, tK 1 51), (51, tAd 52), (52, tCV 0 3 2), (55, tCV 0 4 3), (58, tIn 3 1 61), (61, tGo 36)]
theorem V16_4 : Tkp B16_4 U16_4 := Tkc d_LI (Tkc d_LI (Tkc (d_K rfl) (Tkc d_Ad (Tkc d_CV (Tkc d_CV (Tkc (d_In (i := 3) (x := 1) (nL := 4) (n := 61) (c := 1) rfl rfl) (Tkc d_Go (Tkn))))))))
def U16_5 : List (Nat × zT) := [(64, tIn 2 1 67), (67, tGo 12), (70, tRV)]
theorem V16_5 : Tkp B16_5 U16_5 := Tkc (d_In (i := 2) (x := 1) (nL := 4) (n := 67) (c := 1) rfl rfl) (Tkc d_Go (Tkc d_RV (Tkn)))
def U16 : zP := [(11, U16_0), (25, U16_1), (35, U16_2), (47, U16_3), (61, U16_4), (70, U16_5)]
theorem V16 : Tkb P16 U16 := Tbc V16_0 (Tbc V16_1 (Tbc V16_2 (Tbc V16_3 (Tbc V16_4 (Tbc V16_5 (Tbn))))))
def U17_0 : List (Nat × zT) := [(0, tLd 2 0 1), (1, tGe 0 3 4), (4, tLd 0 1 5), (5, tK 999 8), (8, tLd 2 0 9), (9, tGe 0 3 12), (12, tLd 0 1 13), (13, tAI 14)]
theorem V17_0 : Tkp B17_0 U17_0 := Tkc d_LA (Tkc d_Ge (Tkc d_LI (Tkc (d_K rfl) (Tkc d_LA (Tkc d_Ge (Tkc d_LI (Tkc d_AI (Tkn))))))))
def U17_1 : List (Nat × zT) := [(14, tLd 2 0 15), (15, tGe 0 3 18), (18, tLd 0 2 19), (19, tAI 20), (20, tAd 21), (21, tMM imin 24), (24, tAT 25), (25, tK 0 26)]
theorem V17_1 : Tkp B17_1 U17_1 := Tkc d_LA (Tkc d_Ge (Tkc d_LI (Tkc d_AI (Tkc d_Ad (Tkc d_Mn (Tkc d_AT (Tkc (d_K rfl) (Tkn))))))))
def U17_2 : List (Nat × zT) := [(26, tSt false 0 3 27), (27, tLd 0 3 28), (28, tLd 2 0 29), (29, tGe 0 0 32), (32, tB2 5 62 35), (35, tLd 2 0 36), (36, tLd 0 1 37), (37, tLd 0 3 38)]
theorem V17_2 : Tkp B17_2 U17_2 := Tkc (d_SI (i := 3) (nL := 4) (n := 27) rfl) (Tkc d_LI (Tkc d_LA (Tkc d_Ge (Tkc d_icge (Tkc d_LA (Tkc d_LI (Tkc d_LI (Tkn))))))))
def U17_3 : List (Nat × zT) := [(38, tLd 2 0 39), (39, tLd 0 1 40), (40, tLd 0 3 41), (41, tCV 0 3 2), (44, tLd 2 0 45), (45, tLd 0 2 46), (46, tLd 0 3 47), (47, tCV 0 3 2)]
theorem V17_3 : Tkp B17_3 U17_3 := Tkc d_LA (Tkc d_LI (Tkc d_LI (Tkc d_CV (Tkc d_LA (Tkc d_LI (Tkc d_LI (Tkc d_CV (Tkn))))))))
def U17_4 : List (Nat × zT) := [(50, tMM imax 53), (53, tCV 0 4 3), (56, tIn 3 1 59), (59, tGo 27), (62, tLd 2 0 63), (63, tDu 64), (64, tGe 0 5 67), (67, tLd 2 0 68)]
theorem V17_4 : Tkp B17_4 U17_4 := Tkc d_Mx (Tkc d_CV (Tkc (d_In (i := 3) (x := 1) (nL := 4) (n := 59) (c := 1) rfl rfl) (Tkc d_Go (Tkc d_LA (Tkc d_Du (Tkc d_Ge (Tkc d_LA (Tkn))))))))
def U17_5 : List (Nat × zT) := [(68, tGe 0 5 71), (71, tLd 0 2 72), (72, tCS 94 2), (75, tLd 0 1 76), (76, tI2 gxl 77), (77, tI2 gxo 78), (78, tPI 0 5 81), (81, tLd 2 0 82)]
theorem V17_5 : Tkp B17_5 U17_5 := Tkc d_Ge (Tkc d_LI (Tkc d_CS (Tkc d_LI (Tkc d_shl (Tkc d_or (Tkc d_PI (Tkc d_LA (Tkn))))))))
def U17_6 : List (Nat × zT) := [(82, tLd 0 2 83), (83, tCV 0 18 1), (86, tRV)]
theorem V17_6 : Tkp B17_6 U17_6 := Tkc d_LI (Tkc d_CV (Tkc d_RV (Tkn)))
def U17 : zP := [(13, U17_0), (25, U17_1), (37, U17_2), (47, U17_3), (67, U17_4), (81, U17_5), (86, U17_6)]
theorem V17 : Tkb P17 U17 := Tbc V17_0 (Tbc V17_1 (Tbc V17_2 (Tbc V17_3 (Tbc V17_4 (Tbc V17_5 (Tbc V17_6 (Tbn)))))))
def U18_0 : List (Nat × zT) := [(0, tLd 2 0 1), (1, tDu 2), (2, tGe 0 2 5), (5, tK 1 6), (6, tSb 7), (7, tPI 0 2 10), (10, tLd 0 1 11), (11, tSt false 0 2 12)]
theorem V18_0 : Tkp B18_0 U18_0 := Tkc d_LA (Tkc d_Du (Tkc d_Ge (Tkc (d_K rfl) (Tkc d_Sb (Tkc d_PI (Tkc d_LI (Tkc (d_SI (i := 2) (nL := 4) (n := 12) rfl) (Tkn))))))))
def U18_1 : List (Nat × zT) := [(12, tLd 0 2 13), (13, tLd 2 0 14), (14, tGe 0 2 17), (17, tB2 5 70 20), (20, tLd 2 0 21), (21, tGe 0 3 24), (24, tLd 0 2 25), (25, tLd 2 0 26)]
theorem V18_1 : Tkp B18_1 U18_1 := Tkc d_LI (Tkc d_LA (Tkc d_Ge (Tkc d_icge (Tkc d_LA (Tkc d_Ge (Tkc d_LI (Tkc d_LA (Tkn))))))))
def U18_2 : List (Nat × zT) := [(26, tGe 0 3 29), (29, tLd 0 2 30), (30, tK 1 31), (31, tAd 32), (32, tAI 33), (33, tAT 34), (34, tK 0 35), (35, tSt false 0 3 36)]
theorem V18_2 : Tkp B18_2 U18_2 := Tkc d_Ge (Tkc d_LI (Tkc (d_K rfl) (Tkc d_Ad (Tkc d_AI (Tkc d_AT (Tkc (d_K rfl) (Tkc (d_SI (i := 3) (nL := 4) (n := 36) rfl) (Tkn))))))))
def U18_3 : List (Nat × zT) := [(36, tLd 0 3 37), (37, tLd 2 0 38), (38, tGe 0 0 41), (41, tB2 5 64 44), (44, tLd 2 0 45), (45, tLd 0 2 46), (46, tLd 0 3 47), (47, tLd 2 0 48)]
theorem V18_3 : Tkp B18_3 U18_3 := Tkc d_LI (Tkc d_LA (Tkc d_Ge (Tkc d_icge (Tkc d_LA (Tkc d_LI (Tkc d_LI (Tkc d_LA (Tkn))))))))
def U18_4 : List (Nat × zT) := [(48, tLd 0 2 49), (49, tK 1 50), (50, tAd 51), (51, tLd 0 3 52), (52, tCV 0 3 2), (55, tCV 0 4 3), (58, tIn 3 1 61), (61, tGo 36)]
theorem V18_4 : Tkp B18_4 U18_4 := Tkc d_LI (Tkc (d_K rfl) (Tkc d_Ad (Tkc d_LI (Tkc d_CV (Tkc d_CV (Tkc (d_In (i := 3) (x := 1) (nL := 4) (n := 61) (c := 1) rfl rfl) (Tkc d_Go (Tkn))))))))
def U18_5 : List (Nat × zT) := [(64, tIn 2 1 67), (67, tGo 12), (70, tK 1 71), (71, tLd 0 1 72), (72, tI2 gxl 73), (73, tK 1 74), (74, tSb 75), (75, tSt false 0 2 76)]
theorem V18_5 : Tkp B18_5 U18_5 := Tkc (d_In (i := 2) (x := 1) (nL := 4) (n := 67) (c := 1) rfl rfl) (Tkc d_Go (Tkc (d_K rfl) (Tkc d_LI (Tkc d_shl (Tkc (d_K rfl) (Tkc d_Sb (Tkc (d_SI (i := 2) (nL := 4) (n := 76) rfl) (Tkn))))))))
def U18_6 : List (Nat × zT) := [(76, tLd 2 0 77), (77, tLd 2 0 78), (78, tGe 0 5 81), (81, tLd 0 2 82), (82, tI2 gxa 83), (83, tLd 2 0 84), (84, tGe 0 5 87), (87, tK 1 88)]
theorem V18_6 : Tkp B18_6 U18_6 := Tkc d_LA (Tkc d_LA (Tkc d_Ge (Tkc d_LI (Tkc d_and (Tkc d_LA (Tkc d_Ge (Tkc (d_K rfl) (Tkn))))))))
def U18_7 : List (Nat × zT) := [(88, tI2 gxr 89), (89, tLd 0 2 90), (90, tK (-1) 91), (91, tI2 gxx 92), (92, tI2 gxa 93), (93, tI2 gxo 94), (94, tPI 0 5 97), (97, tRV)]
theorem V18_7 : Tkp B18_7 U18_7 := Tkc d_shr (Tkc d_LI (Tkc (d_K rfl) (Tkc d_xor (Tkc d_and (Tkc d_or (Tkc d_PI (Tkc d_RV (Tkn))))))))
def U18 : zP := [(11, U18_0), (25, U18_1), (35, U18_2), (47, U18_3), (61, U18_4), (75, U18_5), (87, U18_6), (97, U18_7)]
theorem V18 : Tkb P18 U18 := Tbc V18_0 (Tbc V18_1 (Tbc V18_2 (Tbc V18_3 (Tbc V18_4 (Tbc V18_5 (Tbc V18_6 (Tbc V18_7 (Tbn))))))))
def U19_0 : List (Nat × zT) := [(0, tLd 2 0 1), (1, tLd 0 1 2), (2, tPI 0 7 5), (5, tLd 2 0 6), (6, tK 0 7), (7, tPI 0 12 10), (10, tLd 2 0 11), (11, tGe 0 13 14)]
theorem V19_0 : Tkp B19_0 U19_0 := Tkc d_LA (Tkc d_LI (Tkc d_PI (Tkc d_LA (Tkc (d_K rfl) (Tkc d_PI (Tkc d_LA (Tkc d_Ge (Tkn))))))))
def U19_1 : List (Nat × zT) := [(14, tK (-1) 15), (15, tCS 169 2), (18, tLd 2 0 19), (19, tGe 0 14 22), (22, tK (-1) 23), (23, tCS 169 2), (26, tLd 2 0 27), (27, tLd 2 0 28)]
theorem V19_1 : Tkp B19_1 U19_1 := Tkc (d_K rfl) (Tkc d_CS (Tkc d_LA (Tkc d_Ge (Tkc (d_K rfl) (Tkc d_CS (Tkc d_LA (Tkc d_LA (Tkn))))))))
def U19_2 : List (Nat × zT) := [(28, tGe 0 5 31), (31, tPI 0 15 34), (34, tLd 2 0 35), (35, tK 0 36), (36, tPI 0 16 39), (39, tLd 2 0 40), (40, tK (-1) 41), (41, tPI 0 17 44)]
theorem V19_2 : Tkp B19_2 U19_2 := Tkc d_Ge (Tkc d_PI (Tkc d_LA (Tkc (d_K rfl) (Tkc d_PI (Tkc d_LA (Tkc (d_K rfl) (Tkc d_PI (Tkn))))))))
def U19_3 : List (Nat × zT) := [(44, tLd 2 0 45), (45, tK 0 46), (46, tPI 0 18 49), (49, tLd 2 0 50), (50, tCV 0 20 0), (53, tLd 2 0 54), (54, tCV 0 21 0), (57, tLd 2 0 58)]
theorem V19_3 : Tkp B19_3 U19_3 := Tkc d_LA (Tkc (d_K rfl) (Tkc d_PI (Tkc d_LA (Tkc d_CV (Tkc d_LA (Tkc d_CV (Tkc d_LA (Tkn))))))))
def U19_4 : List (Nat × zT) := [(58, tCV 0 24 0), (61, tRV)]
theorem V19_4 : Tkp B19_4 U19_4 := Tkc d_CV (Tkc d_RV (Tkn))
def U19 : zP := [(11, U19_0), (27, U19_1), (41, U19_2), (57, U19_3), (61, U19_4)]
theorem V19 : Tkb P19 U19 := Tbc V19_0 (Tbc V19_1 (Tbc V19_2 (Tbc V19_3 (Tbc V19_4 (Tbn)))))
def U20_0 : List (Nat × zT) := [(0, tLd 2 0 1), (1, tGe 0 10 4), (4, tK 0 5), (5, tCS 169 2), (8, tLd 2 0 9), (9, tGe 0 8 12), (12, tK (-1) 13), (13, tCS 169 2)]
theorem V20_0 : Tkp B20_0 U20_0 := Tkc d_LA (Tkc d_Ge (Tkc (d_K rfl) (Tkc d_CS (Tkc d_LA (Tkc d_Ge (Tkc (d_K rfl) (Tkc d_CS (Tkn))))))))
def U20_1 : List (Nat × zT) := [(16, tK 0 17), (17, tSt false 0 1 18), (18, tLd 0 1 19), (19, tLd 2 0 20), (20, tCV 0 5 0), (23, tB2 5 78 26), (26, tK 0 27), (27, tSt false 0 2 28)]
theorem V20_1 : Tkp B20_1 U20_1 := Tkc (d_K rfl) (Tkc (d_SI (i := 1) (nL := 4) (n := 18) rfl) (Tkc d_LI (Tkc d_LA (Tkc d_CV (Tkc d_icge (Tkc (d_K rfl) (Tkc (d_SI (i := 2) (nL := 4) (n := 28) rfl) (Tkn))))))))
def U20_2 : List (Nat × zT) := [(28, tK 1 29), (29, tSt false 0 3 30), (30, tLd 0 3 31), (31, tLd 2 0 32), (32, tGe 0 2 35), (35, tB2 5 55 38), (38, tLd 2 0 39), (39, tLd 0 3 40)]
theorem V20_2 : Tkp B20_2 U20_2 := Tkc (d_K rfl) (Tkc (d_SI (i := 3) (nL := 4) (n := 30) rfl) (Tkc d_LI (Tkc d_LA (Tkc d_Ge (Tkc d_icge (Tkc d_LA (Tkc d_LI (Tkn))))))))
def U20_3 : List (Nat × zT) := [(40, tLd 0 2 41), (41, tCV 0 22 2), (44, tB1 2 49 47), (47, tLd 0 3 48), (48, tSt false 0 2 49), (49, tIn 3 1 52), (52, tGo 30), (55, tLd 2 0 56)]
theorem V20_3 : Tkp B20_3 U20_3 := Tkc d_LI (Tkc d_CV (Tkc d_ifeq (Tkc d_LI (Tkc (d_SI (i := 2) (nL := 4) (n := 49) rfl) (Tkc (d_In (i := 3) (x := 1) (nL := 4) (n := 52) (c := 1) rfl rfl) (Tkc d_Go (Tkc d_LA (Tkn))))))))
def U20_4 : List (Nat × zT) := [(56, tGe 0 8 59), (59, tLd 0 1 60), (60, tLd 0 2 61), (61, tAT 62), (62, tLd 2 0 63), (63, tGe 0 10 66), (66, tLd 0 2 67), (67, tD2 68)]
theorem V20_4 : Tkp B20_4 U20_4 := Tkc d_Ge (Tkc d_LI (Tkc d_LI (Tkc d_AT (Tkc d_LA (Tkc d_Ge (Tkc d_LI (Tkc d_D2 (Tkn))))))))
def U20_5 : List (Nat × zT) := [(68, tAI 69), (69, tK 1 70), (70, tAd 71), (71, tAT 72), (72, tIn 1 1 75), (75, tGo 18), (78, tRV)]
theorem V20_5 : Tkp B20_5 U20_5 := Tkc d_AI (Tkc (d_K rfl) (Tkc d_Ad (Tkc d_AT (Tkc (d_In (i := 1) (x := 1) (nL := 4) (n := 75) (c := 1) rfl rfl) (Tkc d_Go (Tkc d_RV (Tkn)))))))
def U20 : zP := [(13, U20_0), (27, U20_1), (39, U20_2), (55, U20_3), (67, U20_4), (78, U20_5)]
theorem V20 : Tkb P20 U20 := Tbc V20_0 (Tbc V20_1 (Tbc V20_2 (Tbc V20_3 (Tbc V20_4 (Tbc V20_5 (Tbn))))))
def U21_0 : List (Nat × zT) := [(0, tK 0 1), (1, tSt false 0 1 2), (2, tLd 2 0 3), (3, tCV 0 5 0), (6, tK 1 7), (7, tSb 8), (8, tSt false 0 2 9), (9, tLd 0 2 10)]
theorem V21_0 : Tkp B21_0 U21_0 := Tkc (d_K rfl) (Tkc (d_SI (i := 1) (nL := 3) (n := 2) rfl) (Tkc d_LA (Tkc d_CV (Tkc (d_K rfl) (Tkc d_Sb (Tkc (d_SI (i := 2) (nL := 3) (n := 9) rfl) (Tkc d_LI (Tkn))))))))
def U21_1 : List (Nat × zT) := [(10, tB1 0 37 13), (13, tLd 2 0 14), (14, tGe 0 9 17), (17, tLd 0 2 18), (18, tLd 0 1 19), (19, tAT 20), (20, tLd 0 1 21), (21, tK 1 22)]
theorem V21_1 : Tkp B21_1 U21_1 := Tkc d_iflt (Tkc d_LA (Tkc d_Ge (Tkc d_LI (Tkc d_LI (Tkc d_AT (Tkc d_LI (Tkc (d_K rfl) (Tkn))))))))
def U21_2 : List (Nat × zT) := [(22, tLd 2 0 23), (23, tGe 0 8 26), (26, tLd 0 2 27), (27, tAI 28), (28, tI2 gxl 29), (29, tI2 gxo 30), (30, tSt false 0 1 31), (31, tIn 2 (-1) 34)]
theorem V21_2 : Tkp B21_2 U21_2 := Tkc d_LA (Tkc d_Ge (Tkc d_LI (Tkc d_AI (Tkc d_shl (Tkc d_or (Tkc (d_SI (i := 1) (nL := 3) (n := 31) rfl) (Tkc (d_In (i := 2) (x := (-1)) (nL := 3) (n := 34) (c := (-1)) rfl rfl) (Tkn))))))))
def U21_3 : List (Nat × zT) := [(34, tGo 9), (37, tRV)]
theorem V21_3 : Tkp B21_3 U21_3 := Tkc d_Go (Tkc d_RV (Tkn))
def U21 : zP := [(9, U21_0), (21, U21_1), (31, U21_2), (37, U21_3)]
theorem V21 : Tkb P21 U21 := Tbc V21_0 (Tbc V21_1 (Tbc V21_2 (Tbc V21_3 (Tbn))))
def U22_0 : List (Nat × zT) := [(0, tLd 2 0 1), (1, tGe 0 3 4), (4, tLd 0 1 5), (5, tAI 6), (6, tLd 2 0 7), (7, tLd 2 0 8), (8, tGe 0 10 11), (11, tLd 0 2 12)]
theorem V22_0 : Tkp B22_0 U22_0 := Tkc d_LA (Tkc d_Ge (Tkc d_LI (Tkc d_AI (Tkc d_LA (Tkc d_LA (Tkc d_Ge (Tkc d_LI (Tkn))))))))
def U22_1 : List (Nat × zT) := [(12, tAI 13), (13, tCV 0 23 1), (16, tI2 gxm 17), (17, tSt false 0 3 18), (18, tLd 2 0 19), (19, tGe 0 3 22), (22, tLd 0 2 23), (23, tAI 24)]
theorem V22_1 : Tkp B22_1 U22_1 := Tkc d_AI (Tkc d_CV (Tkc d_mul (Tkc (d_SI (i := 3) (nL := 5) (n := 18) rfl) (Tkc d_LA (Tkc d_Ge (Tkc d_LI (Tkc d_AI (Tkn))))))))
def U22_2 : List (Nat × zT) := [(24, tLd 2 0 25), (25, tLd 2 0 26), (26, tGe 0 10 29), (29, tLd 0 1 30), (30, tAI 31), (31, tCV 0 23 1), (34, tI2 gxm 35), (35, tSt false 0 4 37)]
theorem V22_2 : Tkp B22_2 U22_2 := Tkc d_LA (Tkc d_LA (Tkc d_Ge (Tkc d_LI (Tkc d_AI (Tkc d_CV (Tkc d_mul (Tkc (d_SI (i := 4) (nL := 5) (n := 37) rfl) (Tkn))))))))
def U22_3 : List (Nat × zT) := [(37, tLd 0 3 38), (38, tLd 0 4 40), (40, tB2 2 57 43), (43, tLd 0 3 44), (44, tLd 0 4 46), (46, tB2 1 53 49), (49, tK 1 50), (50, tGo 77)]
theorem V22_3 : Tkp B22_3 U22_3 := Tkc d_LI (Tkc d_LI (Tkc d_iceq (Tkc d_LI (Tkc d_LI (Tkc d_icle (Tkc (d_K rfl) (Tkc d_Go (Tkn))))))))
def U22_4 : List (Nat × zT) := [(53, tK 0 54), (54, tGo 77), (57, tLd 2 0 58), (58, tGe 0 3 61), (61, tLd 0 1 62), (62, tAI 63), (63, tLd 2 0 64), (64, tGe 0 3 67)]
theorem V22_4 : Tkp B22_4 U22_4 := Tkc (d_K rfl) (Tkc d_Go (Tkc d_LA (Tkc d_Ge (Tkc d_LI (Tkc d_AI (Tkc d_LA (Tkc d_Ge (Tkn))))))))
def U22_5 : List (Nat × zT) := [(67, tLd 0 2 68), (68, tAI 69), (69, tB2 1 76 72), (72, tK 1 73), (73, tGo 77), (76, tK 0 77), (77, tRZ)]
theorem V22_5 : Tkp B22_5 U22_5 := Tkc d_LI (Tkc d_AI (Tkc d_icle (Tkc (d_K rfl) (Tkc d_Go (Tkc (d_K rfl) (Tkc d_RZ (Tkn)))))))
def U22 : zP := [(11, U22_0), (23, U22_1), (35, U22_2), (50, U22_3), (64, U22_4), (77, U22_5)]
theorem V22 : Tkb P22 U22 := Tbc V22_0 (Tbc V22_1 (Tbc V22_2 (Tbc V22_3 (Tbc V22_4 (Tbc V22_5 (Tbn))))))
def U23_0 : List (Nat × zT) := [(0, tLd 2 0 1), (1, tGe 0 6 4), (4, tTb [36, 40, 46, 50] 56), (36, tLd 0 1 37), (37, tK 1 38), (38, tAd 39), (39, tRt 0), (40, tK 2 41)]
theorem V23_0 : Tkp B23_0 U23_0 := Tkc d_LA (Tkc d_Ge (Tkc d_Tb (Tkc d_LI (Tkc (d_K rfl) (Tkc d_Ad (Tkc d_RI (Tkc (d_K rfl) (Tkn))))))))
def U23_1 : List (Nat × zT) := [(41, tLd 0 1 42), (42, tI2 gxm 43), (43, tK 1 44), (44, tAd 45), (45, tRt 0), (46, tLd 0 1 47), (47, tK 2 48), (48, tAd 49)]
theorem V23_1 : Tkp B23_1 U23_1 := Tkc d_LI (Tkc d_mul (Tkc (d_K rfl) (Tkc d_Ad (Tkc d_RI (Tkc d_LI (Tkc (d_K rfl) (Tkc d_Ad (Tkn))))))))
def U23_2 : List (Nat × zT) := [(49, tRt 0), (50, tK 3 51), (51, tLd 0 1 52), (52, tI2 gxm 53), (53, tK 1 54), (54, tAd 55), (55, tRt 0), (56, tLd 0 1 57)]
theorem V23_2 : Tkp B23_2 U23_2 := Tkc d_RI (Tkc (d_K rfl) (Tkc d_LI (Tkc d_mul (Tkc (d_K rfl) (Tkc d_Ad (Tkc d_RI (Tkc d_LI (Tkn))))))))
def U23_3 : List (Nat × zT) := [(57, tB1 3 65 60), (60, tK 7 62), (62, tGo 71), (65, tK 10 67), (67, tLd 0 1 68), (68, tI2 gxm 69), (69, tK 5 70), (70, tAd 71)]
theorem V23_3 : Tkp B23_3 U23_3 := Tkc d_ifne (Tkc (d_K rfl) (Tkc d_Go (Tkc (d_K rfl) (Tkc d_LI (Tkc d_mul (Tkc (d_K rfl) (Tkc d_Ad (Tkn))))))))
def U23_4 : List (Nat × zT) := [(71, tRt 0)]
theorem V23_4 : Tkp B23_4 U23_4 := Tkc d_RI (Tkn)
def U23 : zP := [(40, U23_0), (48, U23_1), (56, U23_2), (70, U23_3), (71, U23_4)]
theorem V23 : Tkb P23 U23 := Tbc V23_0 (Tbc V23_1 (Tbc V23_2 (Tbc V23_3 (Tbc V23_4 (Tbn)))))
def U24_0 : List (Nat × zT) := [(0, tK 0 1), (1, tSt false 0 1 2), (2, tLd 0 1 3), (3, tLd 2 0 4), (4, tGe 0 2 7), (7, tB2 5 79 10), (10, tK 0 11), (11, tSt false 0 2 12)]
theorem V24_0 : Tkp B24_0 U24_0 := Tkc (d_K rfl) (Tkc (d_SI (i := 1) (nL := 4) (n := 2) rfl) (Tkc d_LI (Tkc d_LA (Tkc d_Ge (Tkc d_icge (Tkc (d_K rfl) (Tkc (d_SI (i := 2) (nL := 4) (n := 12) rfl) (Tkn))))))))
def U24_1 : List (Nat × zT) := [(12, tK 0 13), (13, tSt false 0 3 14), (14, tLd 0 3 15), (15, tLd 2 0 16), (16, tGe 0 2 19), (19, tB2 5 66 22), (22, tLd 2 0 23), (23, tGe 0 3 26)]
theorem V24_1 : Tkp B24_1 U24_1 := Tkc (d_K rfl) (Tkc (d_SI (i := 3) (nL := 4) (n := 14) rfl) (Tkc d_LI (Tkc d_LA (Tkc d_Ge (Tkc d_icge (Tkc d_LA (Tkc d_Ge (Tkn))))))))
def U24_2 : List (Nat × zT) := [(26, tLd 0 3 27), (27, tAI 28), (28, tLd 2 0 29), (29, tGe 0 3 32), (32, tLd 0 1 33), (33, tAI 34), (34, tB2 4 57 37), (37, tLd 2 0 38)]
theorem V24_2 : Tkp B24_2 U24_2 := Tkc d_LI (Tkc d_AI (Tkc d_LA (Tkc d_Ge (Tkc d_LI (Tkc d_AI (Tkc d_icgt (Tkc d_LA (Tkn))))))))
def U24_3 : List (Nat × zT) := [(38, tGe 0 3 41), (41, tLd 0 3 42), (42, tAI 43), (43, tLd 2 0 44), (44, tGe 0 3 47), (47, tLd 0 1 48), (48, tAI 49), (49, tB2 3 60 52)]
theorem V24_3 : Tkp B24_3 U24_3 := Tkc d_Ge (Tkc d_LI (Tkc d_AI (Tkc d_LA (Tkc d_Ge (Tkc d_LI (Tkc d_AI (Tkc d_icne (Tkn))))))))
def U24_4 : List (Nat × zT) := [(52, tLd 0 3 53), (53, tLd 0 1 54), (54, tB2 5 60 57), (57, tIn 2 1 60), (60, tIn 3 1 63), (63, tGo 14), (66, tLd 2 0 67), (67, tGe 0 11 70)]
theorem V24_4 : Tkp B24_4 U24_4 := Tkc d_LI (Tkc d_LI (Tkc d_icge (Tkc (d_In (i := 2) (x := 1) (nL := 4) (n := 60) (c := 1) rfl rfl) (Tkc (d_In (i := 3) (x := 1) (nL := 4) (n := 63) (c := 1) rfl rfl) (Tkc d_Go (Tkc d_LA (Tkc d_Ge (Tkn))))))))
def U24_5 : List (Nat × zT) := [(70, tLd 0 2 71), (71, tLd 0 1 72), (72, tAT 73), (73, tIn 1 1 76), (76, tGo 2), (79, tRV)]
theorem V24_5 : Tkp B24_5 U24_5 := Tkc d_LI (Tkc d_LI (Tkc d_AT (Tkc (d_In (i := 1) (x := 1) (nL := 4) (n := 76) (c := 1) rfl rfl) (Tkc d_Go (Tkc d_RV (Tkn))))))
def U24 : zP := [(11, U24_0), (23, U24_1), (37, U24_2), (49, U24_3), (67, U24_4), (79, U24_5)]
theorem V24 : Tkb P24 U24 := Tbc V24_0 (Tbc V24_1 (Tbc V24_2 (Tbc V24_3 (Tbc V24_4 (Tbc V24_5 (Tbn))))))
def U25_0 : List (Nat × zT) := [(0, tLd 2 0 1), (1, tGe 0 12 4), (4, tLd 2 0 5), (5, tCV 0 5 0), (8, tB2 5 36 11), (11, tLd 2 0 12), (12, tGe 0 13 15), (15, tLd 0 1 16)]
theorem V25_0 : Tkp B25_0 U25_0 := Tkc d_LA (Tkc d_Ge (Tkc d_LA (Tkc d_CV (Tkc d_icge (Tkc d_LA (Tkc d_Ge (Tkc d_LI (Tkn))))))))
def U25_1 : List (Nat × zT) := [(16, tAI 17), (17, tK (-1) 18), (18, tB2 3 36 21), (21, tLd 2 0 22), (22, tGe 0 16 25), (25, tLd 0 1 26), (26, tCS 94 2), (29, tB1 3 36 32)]
theorem V25_1 : Tkp B25_1 U25_1 := Tkc d_AI (Tkc (d_K rfl) (Tkc d_icne (Tkc d_LA (Tkc d_Ge (Tkc d_LI (Tkc d_CS (Tkc d_ifne (Tkn))))))))
def U25_2 : List (Nat × zT) := [(32, tK 1 33), (33, tGo 37), (36, tK 0 37), (37, tRZ)]
theorem V25_2 : Tkp B25_2 U25_2 := Tkc (d_K rfl) (Tkc d_Go (Tkc (d_K rfl) (Tkc d_RZ (Tkn))))
def U25 : zP := [(15, U25_0), (29, U25_1), (37, U25_2)]
theorem V25 : Tkb P25 U25 := Tbc V25_0 (Tbc V25_1 (Tbc V25_2 (Tbn)))
def U26_0 : List (Nat × zT) := [(0, tLd 2 0 1), (1, tLd 2 0 2), (2, tGe 0 12 5), (5, tCV 0 6 1), (8, tSt false 0 2 9), (9, tLd 2 0 10), (10, tGe 0 13 13), (13, tLd 0 1 14)]
theorem V26_0 : Tkp B26_0 U26_0 := Tkc d_LA (Tkc d_LA (Tkc d_Ge (Tkc d_CV (Tkc (d_SI (i := 2) (nL := 3) (n := 9) rfl) (Tkc d_LA (Tkc d_Ge (Tkc d_LI (Tkn))))))))
def U26_1 : List (Nat × zT) := [(14, tLd 0 2 15), (15, tAT 16), (16, tLd 2 0 17), (17, tGe 0 14 20), (20, tLd 0 1 21), (21, tLd 2 0 22), (22, tGe 0 12 25), (25, tAT 26)]
theorem V26_1 : Tkp B26_1 U26_1 := Tkc d_LI (Tkc d_AT (Tkc d_LA (Tkc d_Ge (Tkc d_LI (Tkc d_LA (Tkc d_Ge (Tkc d_AT (Tkn))))))))
def U26_2 : List (Nat × zT) := [(26, tLd 2 0 27), (27, tDu 28), (28, tGe 0 12 31), (31, tK 1 32), (32, tAd 33), (33, tPI 0 12 36), (36, tLd 2 0 37), (37, tLd 0 1 38)]
theorem V26_2 : Tkp B26_2 U26_2 := Tkc d_LA (Tkc d_Du (Tkc d_Ge (Tkc (d_K rfl) (Tkc d_Ad (Tkc d_PI (Tkc d_LA (Tkc d_LI (Tkn))))))))
def U26_3 : List (Nat × zT) := [(38, tPI 0 17 41), (41, tLd 2 0 42), (42, tLd 2 0 43), (43, tGe 0 16 46), (46, tPI 0 18 49), (49, tLd 2 0 50), (50, tK 0 51), (51, tPI 0 16 54)]
theorem V26_3 : Tkp B26_3 U26_3 := Tkc d_PI (Tkc d_LA (Tkc d_LA (Tkc d_Ge (Tkc d_PI (Tkc d_LA (Tkc (d_K rfl) (Tkc d_PI (Tkn))))))))
def U26_4 : List (Nat × zT) := [(54, tLd 0 2 55), (55, tRt 0)]
theorem V26_4 : Tkp B26_4 U26_4 := Tkc d_LI (Tkc d_RI (Tkn))
def U26 : zP := [(13, U26_0), (25, U26_1), (37, U26_2), (51, U26_3), (55, U26_4)]
theorem V26 : Tkb P26 U26 := Tbc V26_0 (Tbc V26_1 (Tbc V26_2 (Tbc V26_3 (Tbc V26_4 (Tbn)))))
def U27_0 : List (Nat × zT) := [(0, tLd 2 0 1), (1, tGe 0 15 4), (4, tLd 0 1 5), (5, tCS 94 2), (8, tK 1 9), (9, tB2 3 54 12), (12, tLd 2 0 13), (13, tLd 2 0 14)]
theorem V27_0 : Tkp B27_0 U27_0 := Tkc d_LA (Tkc d_Ge (Tkc d_LI (Tkc d_CS (Tkc (d_K rfl) (Tkc d_icne (Tkc d_LA (Tkc d_LA (Tkn))))))))
def U27_1 : List (Nat × zT) := [(14, tGe 0 17 17), (17, tCV 0 1 1), (20, tB1 2 54 23), (23, tLd 2 0 24), (24, tGe 0 13 27), (27, tLd 2 0 28), (28, tGe 0 17 31), (31, tAI 32)]
theorem V27_1 : Tkp B27_1 U27_1 := Tkc d_Ge (Tkc d_CV (Tkc d_ifeq (Tkc d_LA (Tkc d_Ge (Tkc d_LA (Tkc d_Ge (Tkc d_AI (Tkn))))))))
def U27_2 : List (Nat × zT) := [(32, tLd 0 1 33), (33, tB2 2 54 36), (36, tLd 2 0 37), (37, tCV 0 11 0), (40, tLd 2 0 41), (41, tGe 0 18 44), (44, tK (-1) 45), (45, tI2 gxx 46)]
theorem V27_2 : Tkp B27_2 U27_2 := Tkc d_LI (Tkc d_iceq (Tkc d_LA (Tkc d_CV (Tkc d_LA (Tkc d_Ge (Tkc (d_K rfl) (Tkc d_xor (Tkn))))))))
def U27_3 : List (Nat × zT) := [(46, tI2 gxa 47), (47, tB1 2 54 50), (50, tK 1 51), (51, tGo 55), (54, tK 0 55), (55, tRZ)]
theorem V27_3 : Tkp B27_3 U27_3 := Tkc d_and (Tkc d_ifeq (Tkc (d_K rfl) (Tkc d_Go (Tkc (d_K rfl) (Tkc d_RZ (Tkn))))))
def U27 : zP := [(13, U27_0), (31, U27_1), (45, U27_2), (55, U27_3)]
theorem V27 : Tkb P27 U27 := Tbc V27_0 (Tbc V27_1 (Tbc V27_2 (Tbc V27_3 (Tbn))))
def U28_0 : List (Nat × zT) := [(0, tLd 2 0 1), (1, tGe 0 17 4), (4, tSt false 0 2 5), (5, tLd 2 0 6), (6, tLd 0 2 7), (7, tCV 0 1 1), (10, tB1 3 15 13), (13, tK (-1) 14)]
theorem V28_0 : Tkp B28_0 U28_0 := Tkc d_LA (Tkc d_Ge (Tkc (d_SI (i := 2) (nL := 3) (n := 5) rfl) (Tkc d_LA (Tkc d_LI (Tkc d_CV (Tkc d_ifne (Tkc (d_K rfl) (Tkn))))))))
def U28_1 : List (Nat × zT) := [(14, tRt 0), (15, tLd 2 0 16), (16, tGe 0 13 19), (19, tLd 0 2 20), (20, tK (-1) 21), (21, tAT 22), (22, tLd 2 0 23), (23, tGe 0 14 26)]
theorem V28_1 : Tkp B28_1 U28_1 := Tkc d_RI (Tkc d_LA (Tkc d_Ge (Tkc d_LI (Tkc (d_K rfl) (Tkc d_AT (Tkc d_LA (Tkc d_Ge (Tkn))))))))
def U28_2 : List (Nat × zT) := [(26, tLd 0 2 27), (27, tK (-1) 28), (28, tAT 29), (29, tLd 2 0 30), (30, tDu 31), (31, tGe 0 12 34), (34, tK 1 35), (35, tSb 36)]
theorem V28_2 : Tkp B28_2 U28_2 := Tkc d_LI (Tkc (d_K rfl) (Tkc d_AT (Tkc d_LA (Tkc d_Du (Tkc d_Ge (Tkc (d_K rfl) (Tkc d_Sb (Tkn))))))))
def U28_3 : List (Nat × zT) := [(36, tPI 0 12 39), (39, tLd 2 0 40), (40, tK (-1) 41), (41, tPI 0 17 44), (44, tLd 2 0 45), (45, tLd 2 0 46), (46, tGe 0 18 49), (49, tK 1 50)]
theorem V28_3 : Tkp B28_3 U28_3 := Tkc d_PI (Tkc d_LA (Tkc (d_K rfl) (Tkc d_PI (Tkc d_LA (Tkc d_LA (Tkc d_Ge (Tkc (d_K rfl) (Tkn))))))))
def U28_4 : List (Nat × zT) := [(50, tLd 0 2 51), (51, tI2 gxl 52), (52, tI2 gxo 53), (53, tPI 0 16 56), (56, tLd 2 0 57), (57, tDu 58), (58, tGe 0 15 61), (61, tK 1 62)]
theorem V28_4 : Tkp B28_4 U28_4 := Tkc d_LI (Tkc d_shl (Tkc d_or (Tkc d_PI (Tkc d_LA (Tkc d_Du (Tkc d_Ge (Tkc (d_K rfl) (Tkn))))))))
def U28_5 : List (Nat × zT) := [(62, tLd 0 1 63), (63, tI2 gxl 64), (64, tK (-1) 65), (65, tI2 gxx 66), (66, tI2 gxa 67), (67, tPI 0 15 70), (70, tLd 0 2 71), (71, tRt 0)]
theorem V28_5 : Tkp B28_5 U28_5 := Tkc d_LI (Tkc d_shl (Tkc (d_K rfl) (Tkc d_xor (Tkc d_and (Tkc d_PI (Tkc d_LI (Tkc d_RI (Tkn))))))))
def U28 : zP := [(13, U28_0), (23, U28_1), (35, U28_2), (49, U28_3), (61, U28_4), (71, U28_5)]
theorem V28 : Tkb P28 U28 := Tbc V28_0 (Tbc V28_1 (Tbc V28_2 (Tbc V28_3 (Tbc V28_4 (Tbc V28_5 (Tbn))))))
def U29_0 : List (Nat × zT) := [(0, tLd 2 0 1), (1, tLd 0 1 2), (2, tCV 0 8 1), (5, tSt false 0 2 6), (6, tLd 2 0 7), (7, tCV 0 11 0), (10, tSt false 0 3 11), (11, tLd 0 3 12)]
theorem V29_0 : Tkp B29_0 U29_0 := Tkc d_LA (Tkc d_LI (Tkc d_CV (Tkc (d_SI (i := 2) (nL := 8) (n := 6) rfl) (Tkc d_LA (Tkc d_CV (Tkc (d_SI (i := 3) (nL := 8) (n := 11) rfl) (Tkc d_LI (Tkn))))))))
def U29_1 : List (Nat × zT) := [(12, tLd 2 0 13), (13, tGe 0 16 16), (16, tK (-1) 17), (17, tI2 gxx 18), (18, tI2 gxa 19), (19, tSt false 0 4 21), (21, tLd 2 0 22), (22, tGe 0 12 25)]
theorem V29_1 : Tkp B29_1 U29_1 := Tkc d_LA (Tkc d_Ge (Tkc (d_K rfl) (Tkc d_xor (Tkc d_and (Tkc (d_SI (i := 4) (nL := 8) (n := 21) rfl) (Tkc d_LA (Tkc d_Ge (Tkn))))))))
def U29_2 : List (Nat × zT) := [(25, tSt false 0 5 27), (27, tLd 0 5 29), (29, tLd 2 0 30), (30, tCV 0 5 0), (33, tB2 5 99 36), (36, tLd 2 0 37), (37, tLd 0 5 39), (39, tCV 0 6 1)]
theorem V29_2 : Tkp B29_2 U29_2 := Tkc (d_SI (i := 5) (nL := 8) (n := 27) rfl) (Tkc d_LI (Tkc d_LA (Tkc d_CV (Tkc d_icge (Tkc d_LA (Tkc d_LI (Tkc d_CV (Tkn))))))))
def U29_3 : List (Nat × zT) := [(42, tSt false 0 6 44), (44, tLd 2 0 45), (45, tLd 0 6 47), (47, tLd 0 4 49), (49, tCV 0 30 2), (52, tSt false 0 7 54), (54, tLd 2 0 55), (55, tLd 0 7 57)]
theorem V29_3 : Tkp B29_3 U29_3 := Tkc (d_SI (i := 6) (nL := 8) (n := 44) rfl) (Tkc d_LA (Tkc d_LI (Tkc d_LI (Tkc d_CV (Tkc (d_SI (i := 7) (nL := 8) (n := 54) rfl) (Tkc d_LA (Tkc d_LI (Tkn))))))))
def U29_4 : List (Nat × zT) := [(57, tCV 0 1 1), (60, tB1 3 65 63), (63, tLd 0 2 64), (64, tRt 0), (65, tLd 0 6 67), (67, tLd 0 1 68), (68, tB2 3 81 71), (71, tLd 0 2 72)]
theorem V29_4 : Tkp B29_4 U29_4 := Tkc d_CV (Tkc d_ifne (Tkc d_LI (Tkc d_RI (Tkc d_LI (Tkc d_LI (Tkc d_icne (Tkc d_LI (Tkn))))))))
def U29_5 : List (Nat × zT) := [(72, tLd 2 0 73), (73, tLd 0 1 74), (74, tLd 0 7 76), (76, tCV 0 3 2), (79, tAd 80), (80, tSt false 0 2 81), (81, tLd 0 3 82), (82, tK 1 83)]
theorem V29_5 : Tkp B29_5 U29_5 := Tkc d_LA (Tkc d_LI (Tkc d_LI (Tkc d_CV (Tkc d_Ad (Tkc (d_SI (i := 2) (nL := 8) (n := 81) rfl) (Tkc d_LI (Tkc (d_K rfl) (Tkn))))))))
def U29_6 : List (Nat × zT) := [(83, tLd 0 7 85), (85, tI2 gxl 86), (86, tK (-1) 87), (87, tI2 gxx 88), (88, tI2 gxa 89), (89, tSt false 0 3 90), (90, tLd 0 3 91), (91, tSt false 0 4 93)]
theorem V29_6 : Tkp B29_6 U29_6 := Tkc d_LI (Tkc d_shl (Tkc (d_K rfl) (Tkc d_xor (Tkc d_and (Tkc (d_SI (i := 3) (nL := 8) (n := 90) rfl) (Tkc d_LI (Tkc (d_SI (i := 4) (nL := 8) (n := 93) rfl) (Tkn))))))))
def U29_7 : List (Nat × zT) := [(93, tIn 5 1 96), (96, tGo 27), (99, tLd 0 2 100), (100, tRt 0)]
theorem V29_7 : Tkp B29_7 U29_7 := Tkc (d_In (i := 5) (x := 1) (nL := 8) (n := 96) (c := 1) rfl rfl) (Tkc d_Go (Tkc d_LI (Tkc d_RI (Tkn))))
def U29 : zP := [(11, U29_0), (22, U29_1), (39, U29_2), (55, U29_3), (71, U29_4), (82, U29_5), (91, U29_6), (100, U29_7)]
theorem V29 : Tkb P29 U29 := Tbc V29_0 (Tbc V29_1 (Tbc V29_2 (Tbc V29_3 (Tbc V29_4 (Tbc V29_5 (Tbc V29_6 (Tbc V29_7 (Tbn))))))))
def U30_0 : List (Nat × zT) := [(0, tK (-1) 1), (1, tSt false 0 3 2), (2, tK 0 3), (3, tSt false 0 4 5), (5, tLd 0 4 7), (7, tLd 2 0 8), (8, tGe 0 0 11), (11, tB2 5 54 14)]
theorem V30_0 : Tkp B30_0 U30_0 := Tkc (d_K rfl) (Tkc (d_SI (i := 3) (nL := 5) (n := 2) rfl) (Tkc (d_K rfl) (Tkc (d_SI (i := 4) (nL := 5) (n := 5) rfl) (Tkc d_LI (Tkc d_LA (Tkc d_Ge (Tkc d_icge (Tkn))))))))
def U30_1 : List (Nat × zT) := [(14, tLd 0 2 15), (15, tLd 0 4 17), (17, tCS 94 2), (20, tK 1 21), (21, tB2 3 48 24), (24, tLd 0 3 25), (25, tK (-1) 26), (26, tB2 2 45 29)]
theorem V30_1 : Tkp B30_1 U30_1 := Tkc d_LI (Tkc d_LI (Tkc d_CS (Tkc (d_K rfl) (Tkc d_icne (Tkc d_LI (Tkc (d_K rfl) (Tkc d_iceq (Tkn))))))))
def U30_2 : List (Nat × zT) := [(29, tLd 2 0 30), (30, tLd 0 1 31), (31, tLd 0 4 33), (33, tCV 0 3 2), (36, tLd 2 0 37), (37, tLd 0 1 38), (38, tLd 0 3 39), (39, tCV 0 3 2)]
theorem V30_2 : Tkp B30_2 U30_2 := Tkc d_LA (Tkc d_LI (Tkc d_LI (Tkc d_CV (Tkc d_LA (Tkc d_LI (Tkc d_LI (Tkc d_CV (Tkn))))))))
def U30_3 : List (Nat × zT) := [(42, tB2 1 48 45), (45, tLd 0 4 47), (47, tSt false 0 3 48), (48, tIn 4 1 51), (51, tGo 5), (54, tLd 0 3 55), (55, tRt 0)]
theorem V30_3 : Tkp B30_3 U30_3 := Tkc d_icle (Tkc d_LI (Tkc (d_SI (i := 3) (nL := 5) (n := 48) rfl) (Tkc (d_In (i := 4) (x := 1) (nL := 5) (n := 51) (c := 1) rfl rfl) (Tkc d_Go (Tkc d_LI (Tkc d_RI (Tkn)))))))
def U30 : zP := [(11, U30_0), (26, U30_1), (39, U30_2), (55, U30_3)]
theorem V30 : Tkb P30 U30 := Tbc V30_0 (Tbc V30_1 (Tbc V30_2 (Tbc V30_3 (Tbn))))
def U31_0 : List (Nat × zT) := [(0, tLd 2 0 1), (1, tLd 2 1 2), (2, tGe 0 0 5), (5, tPI 0 0 8), (8, tLd 2 0 9), (9, tLd 2 1 10), (10, tGe 0 2 13), (13, tPI 0 2 16)]
theorem V31_0 : Tkp B31_0 U31_0 := Tkc d_LA (Tkc d_LA (Tkc d_Ge (Tkc d_PI (Tkc d_LA (Tkc d_LA (Tkc d_Ge (Tkc d_PI (Tkn))))))))
def U31_1 : List (Nat × zT) := [(16, tLd 2 0 17), (17, tLd 2 1 18), (18, tGe 0 5 21), (21, tPI 0 5 24), (24, tLd 2 0 25), (25, tLd 2 1 26), (26, tGe 0 6 29), (29, tPI 0 6 32)]
theorem V31_1 : Tkp B31_1 U31_1 := Tkc d_LA (Tkc d_LA (Tkc d_Ge (Tkc d_PI (Tkc d_LA (Tkc d_LA (Tkc d_Ge (Tkc d_PI (Tkn))))))))
def U31_2 : List (Nat × zT) := [(32, tLd 2 0 33), (33, tLd 2 1 34), (34, tGe 0 7 37), (37, tPI 0 7 40), (40, tLd 2 0 41), (41, tLd 2 1 42), (42, tGe 0 12 45), (45, tPI 0 12 48)]
theorem V31_2 : Tkp B31_2 U31_2 := Tkc d_LA (Tkc d_LA (Tkc d_Ge (Tkc d_PI (Tkc d_LA (Tkc d_LA (Tkc d_Ge (Tkc d_PI (Tkn))))))))
def U31_3 : List (Nat × zT) := [(48, tLd 2 0 49), (49, tLd 2 1 50), (50, tGe 0 15 53), (53, tPI 0 15 56), (56, tLd 2 0 57), (57, tLd 2 1 58), (58, tGe 0 16 61), (61, tPI 0 16 64)]
theorem V31_3 : Tkp B31_3 U31_3 := Tkc d_LA (Tkc d_LA (Tkc d_Ge (Tkc d_PI (Tkc d_LA (Tkc d_LA (Tkc d_Ge (Tkc d_PI (Tkn))))))))
def U31_4 : List (Nat × zT) := [(64, tLd 2 0 65), (65, tLd 2 1 66), (66, tGe 0 17 69), (69, tPI 0 17 72), (72, tLd 2 0 73), (73, tLd 2 1 74), (74, tGe 0 18 77), (77, tPI 0 18 80)]
theorem V31_4 : Tkp B31_4 U31_4 := Tkc d_LA (Tkc d_LA (Tkc d_Ge (Tkc d_PI (Tkc d_LA (Tkc d_LA (Tkc d_Ge (Tkc d_PI (Tkn))))))))
def U31_5 : List (Nat × zT) := [(80, tLd 2 1 81), (81, tGe 0 1 84), (84, tK 0 85), (85, tLd 2 0 86), (86, tGe 0 1 89), (89, tK 0 90), (90, tK 6 92), (92, tCp 95)]
theorem V31_5 : Tkp B31_5 U31_5 := Tkc d_LA (Tkc d_Ge (Tkc (d_K rfl) (Tkc d_LA (Tkc d_Ge (Tkc (d_K rfl) (Tkc (d_K rfl) (Tkc d_Cp (Tkn))))))))
def U31_6 : List (Nat × zT) := [(95, tLd 2 1 96), (96, tGe 0 13 99), (99, tK 0 100), (100, tLd 2 0 101), (101, tGe 0 13 104), (104, tK 0 105), (105, tK 6 107), (107, tCp 110)]
theorem V31_6 : Tkp B31_6 U31_6 := Tkc d_LA (Tkc d_Ge (Tkc (d_K rfl) (Tkc d_LA (Tkc d_Ge (Tkc (d_K rfl) (Tkc (d_K rfl) (Tkc d_Cp (Tkn))))))))
def U31_7 : List (Nat × zT) := [(110, tLd 2 1 111), (111, tGe 0 14 114), (114, tK 0 115), (115, tLd 2 0 116), (116, tGe 0 14 119), (119, tK 0 120), (120, tK 6 122), (122, tCp 125)]
theorem V31_7 : Tkp B31_7 U31_7 := Tkc d_LA (Tkc d_Ge (Tkc (d_K rfl) (Tkc d_LA (Tkc d_Ge (Tkc (d_K rfl) (Tkc (d_K rfl) (Tkc d_Cp (Tkn))))))))
def U31_8 : List (Nat × zT) := [(125, tLd 2 1 126), (126, tGe 0 8 129), (129, tK 0 130), (130, tLd 2 0 131), (131, tGe 0 8 134), (134, tK 0 135), (135, tK 6 137), (137, tCp 140)]
theorem V31_8 : Tkp B31_8 U31_8 := Tkc d_LA (Tkc d_Ge (Tkc (d_K rfl) (Tkc d_LA (Tkc d_Ge (Tkc (d_K rfl) (Tkc (d_K rfl) (Tkc d_Cp (Tkn))))))))
def U31_9 : List (Nat × zT) := [(140, tLd 2 1 141), (141, tGe 0 9 144), (144, tK 0 145), (145, tLd 2 0 146), (146, tGe 0 9 149), (149, tK 0 150), (150, tK 6 152), (152, tCp 155)]
theorem V31_9 : Tkp B31_9 U31_9 := Tkc d_LA (Tkc d_Ge (Tkc (d_K rfl) (Tkc d_LA (Tkc d_Ge (Tkc (d_K rfl) (Tkc (d_K rfl) (Tkc d_Cp (Tkn))))))))
def U31_10 : List (Nat × zT) := [(155, tLd 2 1 156), (156, tGe 0 3 159), (159, tK 0 160), (160, tLd 2 0 161), (161, tGe 0 3 164), (164, tK 0 165), (165, tK 4 166), (166, tCp 169)]
theorem V31_10 : Tkp B31_10 U31_10 := Tkc d_LA (Tkc d_Ge (Tkc (d_K rfl) (Tkc d_LA (Tkc d_Ge (Tkc (d_K rfl) (Tkc (d_K rfl) (Tkc d_Cp (Tkn))))))))
def U31_11 : List (Nat × zT) := [(169, tLd 2 1 170), (170, tGe 0 10 173), (173, tK 0 174), (174, tLd 2 0 175), (175, tGe 0 10 178), (178, tK 0 179), (179, tK 4 180), (180, tCp 183)]
theorem V31_11 : Tkp B31_11 U31_11 := Tkc d_LA (Tkc d_Ge (Tkc (d_K rfl) (Tkc d_LA (Tkc d_Ge (Tkc (d_K rfl) (Tkc (d_K rfl) (Tkc d_Cp (Tkn))))))))
def U31_12 : List (Nat × zT) := [(183, tLd 2 1 184), (184, tGe 0 11 187), (187, tK 0 188), (188, tLd 2 0 189), (189, tGe 0 11 192), (192, tK 0 193), (193, tK 4 194), (194, tCp 197)]
theorem V31_12 : Tkp B31_12 U31_12 := Tkc d_LA (Tkc d_Ge (Tkc (d_K rfl) (Tkc d_LA (Tkc d_Ge (Tkc (d_K rfl) (Tkc (d_K rfl) (Tkc d_Cp (Tkn))))))))
def U31_13 : List (Nat × zT) := [(197, tLd 2 1 198), (198, tGe 0 4 201), (201, tK 0 202), (202, tLd 2 0 203), (203, tGe 0 4 206), (206, tK 0 207), (207, tK 24 209), (209, tCp 212)]
theorem V31_13 : Tkp B31_13 U31_13 := Tkc d_LA (Tkc d_Ge (Tkc (d_K rfl) (Tkc d_LA (Tkc d_Ge (Tkc (d_K rfl) (Tkc (d_K rfl) (Tkc d_Cp (Tkn))))))))
def U31_14 : List (Nat × zT) := [(212, tRV)]
theorem V31_14 : Tkp B31_14 U31_14 := Tkc d_RV (Tkn)
def U31 : zP := [(13, U31_0), (29, U31_1), (45, U31_2), (61, U31_3), (77, U31_4), (92, U31_5), (107, U31_6), (122, U31_7), (137, U31_8), (152, U31_9), (166, U31_10), (180, U31_11), (194, U31_12), (209, U31_13), (212, U31_14)]
theorem V31 : Tkb P31 U31 := Tbc V31_0 (Tbc V31_1 (Tbc V31_2 (Tbc V31_3 (Tbc V31_4 (Tbc V31_5 (Tbc V31_6 (Tbc V31_7 (Tbc V31_8 (Tbc V31_9 (Tbc V31_10 (Tbc V31_11 (Tbc V31_12 (Tbc V31_13 (Tbc V31_14 (Tbn)))))))))))))))
def U33_0 : List (Nat × zT) := [(0, tLd 2 1 1), (1, tLd 0 2 2), (2, tCV 0 8 1), (5, tLd 2 0 6), (6, tLd 2 1 7), (7, tLd 2 1 8), (8, tCV 0 11 0), (11, tLd 2 1 12)]
theorem V33_0 : Tkp B33_0 U33_0 := Tkc d_LA (Tkc d_LI (Tkc d_CV (Tkc d_LA (Tkc d_LA (Tkc d_LA (Tkc d_CV (Tkc d_LA (Tkn))))))))
def U33_1 : List (Nat × zT) := [(12, tGe 0 16 15), (15, tLd 0 3 16), (16, tK 0 17), (17, tCV 1 41 5), (20, tLd 0 2 21), (21, tCS 37 2), (24, tAd 25), (25, tRt 0)]
theorem V33_1 : Tkp B33_1 U33_1 := Tkc d_Ge (Tkc d_LI (Tkc (d_K rfl) (Tkc d_CV (Tkc d_LI (Tkc d_CS (Tkc d_Ad (Tkc d_RI (Tkn))))))))
def U33 : zP := [(11, U33_0), (25, U33_1)]
theorem V33 : Tkb P33 U33 := Tbc V33_0 (Tbc V33_1 (Tbn))
def U34_0 : List (Nat × zT) := [(0, tLd 2 0 1), (1, tLd 2 1 2), (2, tLd 2 1 3), (3, tCV 0 11 0), (6, tLd 2 1 7), (7, tGe 0 16 10), (10, tLd 2 1 11), (11, tGe 0 15 14)]
theorem V34_0 : Tkp B34_0 U34_0 := Tkc d_LA (Tkc d_LA (Tkc d_LA (Tkc d_CV (Tkc d_LA (Tkc d_Ge (Tkc d_LA (Tkc d_Ge (Tkn))))))))
def U34_1 : List (Nat × zT) := [(14, tK 0 15), (15, tCV 1 41 5), (18, tCS 39 1), (21, tRt 0)]
theorem V34_1 : Tkp B34_1 U34_1 := Tkc (d_K rfl) (Tkc d_CV (Tkc d_CS (Tkc d_RI (Tkn))))
def U34 : zP := [(11, U34_0), (21, U34_1)]
theorem V34 : Tkb P34 U34 := Tbc V34_0 (Tbc V34_1 (Tbn))
def U35_0 : List (Nat × zT) := [(0, tLd 2 0 1), (1, tLd 2 1 2), (2, tLd 0 2 3), (3, tLd 2 1 4), (4, tCV 0 11 0), (7, tLd 2 1 8), (8, tGe 0 16 11), (11, tLd 2 1 12)]
theorem V35_0 : Tkp B35_0 U35_0 := Tkc d_LA (Tkc d_LA (Tkc d_LI (Tkc d_LA (Tkc d_CV (Tkc d_LA (Tkc d_Ge (Tkc d_LA (Tkn))))))))
def U35_1 : List (Nat × zT) := [(12, tGe 0 15 15), (15, tK 0 16), (16, tCV 1 42 6), (19, tCS 38 1), (22, tRt 0)]
theorem V35_1 : Tkp B35_1 U35_1 := Tkc d_Ge (Tkc (d_K rfl) (Tkc d_CV (Tkc d_CS (Tkc d_RI (Tkn)))))
def U35 : zP := [(11, U35_0), (22, U35_1)]
theorem V35 : Tkb P35 U35 := Tbc V35_0 (Tbc V35_1 (Tbn))
def U36_0 : List (Nat × zT) := [(0, tLd 2 0 1), (1, tLd 2 1 2), (2, tLd 0 2 3), (3, tLd 2 1 4), (4, tCV 0 11 0), (7, tLd 2 1 8), (8, tGe 0 16 11), (11, tLd 2 1 12)]
theorem V36_0 : Tkp B36_0 U36_0 := Tkc d_LA (Tkc d_LA (Tkc d_LI (Tkc d_LA (Tkc d_CV (Tkc d_LA (Tkc d_Ge (Tkc d_LA (Tkn))))))))
def U36_1 : List (Nat × zT) := [(12, tGe 0 15 15), (15, tK 0 16), (16, tCV 1 42 6), (19, tSt true 1 4 21), (21, tLd 2 1 22), (22, tLd 0 3 23), (23, tCV 0 8 1), (26, tLd 1 4 28)]
theorem V36_1 : Tkp B36_1 U36_1 := Tkc d_Ge (Tkc (d_K rfl) (Tkc d_CV (Tkc (d_SL (i := 4) (nL := 6) (n := 21) rfl) (Tkc d_LA (Tkc d_LI (Tkc d_CV (Tkc d_LL (Tkn))))))))
def U36_2 : List (Nat × zT) := [(28, tLd 0 3 29), (29, tCS 37 2), (32, tAd 33), (33, tRt 0)]
theorem V36_2 : Tkp B36_2 U36_2 := Tkc d_LI (Tkc d_CS (Tkc d_Ad (Tkc d_RI (Tkn))))
def U36 : zP := [(11, U36_0), (26, U36_1), (33, U36_2)]
theorem V36 : Tkb P36 U36 := Tbc V36_0 (Tbc V36_1 (Tbc V36_2 (Tbn)))
def U37_0 : List (Nat × zT) := [(0, tLd 1 0 1), (1, tK 10 3), (3, tLd 0 2 4), (4, tI2 gxm 5), (5, tLS 6), (6, tKL 1023 9), (9, tLa 10), (10, tLIn 11)]
theorem V37_0 : Tkp B37_0 U37_0 := Tkc d_LL (Tkc (d_K rfl) (Tkc d_LI (Tkc d_mul (Tkc d_LS (Tkc (d_KLc rfl) (Tkc d_La (Tkc d_LIn (Tkn))))))))
def U37_1 : List (Nat × zT) := [(11, tRt 0)]
theorem V37_1 : Tkp B37_1 U37_1 := Tkc d_RI (Tkn)
def U37 : zP := [(10, U37_0), (11, U37_1)]
theorem V37 : Tkb P37 U37 := Tbc V37_0 (Tbc V37_1 (Tbn))
def U38_0 : List (Nat × zT) := [(0, tLd 1 0 1), (1, tK 40 3), (3, tLS 4), (4, tKL 7 7), (7, tLa 8), (8, tLIn 9), (9, tK 1 10), (10, tSb 11)]
theorem V38_0 : Tkp B38_0 U38_0 := Tkc d_LL (Tkc (d_K rfl) (Tkc d_LS (Tkc (d_KLc rfl) (Tkc d_La (Tkc d_LIn (Tkc (d_K rfl) (Tkc d_Sb (Tkn))))))))
def U38_1 : List (Nat × zT) := [(11, tRt 0)]
theorem V38_1 : Tkp B38_1 U38_1 := Tkc d_RI (Tkn)
def U38 : zP := [(10, U38_0), (11, U38_1)]
theorem V38 : Tkb P38 U38 := Tbc V38_0 (Tbc V38_1 (Tbn))
def U39_0 : List (Nat × zT) := [(0, tLd 1 0 1), (1, tK 43 3), (3, tLS 4), (4, tKL 7 7), (7, tLa 8), (8, tLIn 9), (9, tK 1 10), (10, tSb 11)]
theorem V39_0 : Tkp B39_0 U39_0 := Tkc d_LL (Tkc (d_K rfl) (Tkc d_LS (Tkc (d_KLc rfl) (Tkc d_La (Tkc d_LIn (Tkc (d_K rfl) (Tkc d_Sb (Tkn))))))))
def U39_1 : List (Nat × zT) := [(11, tRt 0)]
theorem V39_1 : Tkp B39_1 U39_1 := Tkc d_RI (Tkn)
def U39 : zP := [(10, U39_0), (11, U39_1)]
theorem V39 : Tkb P39 U39 := Tbc V39_0 (Tbc V39_1 (Tbn))
def U40_0 : List (Nat × zT) := [(0, tLd 2 0 1), (1, tGe 1 0 4), (4, tLd 0 1 5), (5, tK 63 7), (7, tI2 gxa 8), (8, tAI 9), (9, tLd 2 0 10), (10, tGe 1 0 13)]
theorem V40_0 : Tkp B40_0 U40_0 := Tkc d_LA (Tkc d_Ge (Tkc d_LI (Tkc (d_K rfl) (Tkc d_and (Tkc d_AI (Tkc d_LA (Tkc d_Ge (Tkn))))))))
def U40_1 : List (Nat × zT) := [(13, tLd 0 2 14), (14, tLd 0 1 15), (15, tI2 gxa 16), (16, tK 63 18), (18, tI2 gxa 19), (19, tAI 20), (20, tAd 21), (21, tSt false 0 4 23)]
theorem V40_1 : Tkp B40_1 U40_1 := Tkc d_LI (Tkc d_LI (Tkc d_and (Tkc (d_K rfl) (Tkc d_and (Tkc d_AI (Tkc d_Ad (Tkc (d_SI (i := 4) (nL := 5) (n := 23) rfl) (Tkn))))))))
def U40_2 : List (Nat × zT) := [(23, tLd 0 4 25), (25, tK 16 27), (27, tI2 gxm 28), (28, tLd 0 3 29), (29, tK 15 31), (31, tI2 gxa 32), (32, tAd 33), (33, tRt 0)]
theorem V40_2 : Tkp B40_2 U40_2 := Tkc d_LI (Tkc (d_K rfl) (Tkc d_mul (Tkc d_LI (Tkc (d_K rfl) (Tkc d_and (Tkc d_Ad (Tkc d_RI (Tkn))))))))
def U40 : zP := [(10, U40_0), (21, U40_1), (33, U40_2)]
theorem V40 : Tkb P40 U40 := Tbc V40_0 (Tbc V40_1 (Tbc V40_2 (Tbn)))
