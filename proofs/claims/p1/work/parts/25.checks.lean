set_option maxRecDepth 100000 in
theorem ck_s0 : ckL 0 0 [] = true := by decide +kernel
set_option maxRecDepth 100000 in
theorem ck_s1 : ckL 1 0 [] = true := by decide +kernel
set_option maxRecDepth 100000 in
theorem ck_s2 : ckL 2 0 [] = true := by decide +kernel
set_option maxRecDepth 100000 in
theorem ck_s3 : ckL 3 0 [] = true := by decide +kernel
set_option maxRecDepth 100000 in
theorem ck_1 : ck4 1 1 = true := by decide +kernel
set_option maxRecDepth 100000 in
theorem ck_2 : ck4 1 2 = true := by decide +kernel
set_option maxRecDepth 100000 in
theorem ck_3 : ck4 5 3 = true := by decide +kernel
set_option maxRecDepth 100000 in
theorem ck_4 : ck4 1 4 = true := by decide +kernel
set_option maxRecDepth 100000 in
theorem ck_5 : ck4 1 5 = true := by decide +kernel
set_option maxRecDepth 100000 in
theorem ck_6 : ck4 1 6 = true := by decide +kernel
set_option maxRecDepth 100000 in
theorem ck_7 : ck4 7 7 = true := by decide +kernel
set_option maxRecDepth 100000 in
theorem ck_8 : ck4 1 8 = true := by decide +kernel
set_option maxRecDepth 100000 in
theorem ck_9 : ck4 1 9 = true := by decide +kernel
set_option maxRecDepth 100000 in
theorem ck_10 : ck4 5 10 = true := by decide +kernel
set_option maxRecDepth 100000 in
theorem ck_11 : ck4 1 11 = true := by decide +kernel
set_option maxRecDepth 100000 in
theorem ck_12 : ck4 1 12 = true := by decide +kernel
set_option maxRecDepth 100000 in
theorem ck_13 : ck4 1 13 = true := by decide +kernel
set_option maxRecDepth 100000 in
theorem ck_14 : ck4 1 14 = true := by decide +kernel
set_option maxRecDepth 100000 in
theorem ck_15 : ck4 1 15 = true := by decide +kernel
