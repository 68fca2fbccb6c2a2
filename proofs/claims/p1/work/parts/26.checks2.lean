set_option maxRecDepth 100000 in
theorem ck_0 : ck4 128 0 = true := by decide +kernel
set_option maxRecDepth 100000 in
theorem ck_16 : ck4 1 16 = true := by decide +kernel
set_option maxRecDepth 100000 in
theorem ck_17 : ck4 1 17 = true := by decide +kernel
set_option maxRecDepth 100000 in
theorem ck_18 : ck4 1 18 = true := by decide +kernel
set_option maxRecDepth 100000 in
theorem ck_19 : ck4 1 19 = true := by decide +kernel
set_option maxRecDepth 100000 in
theorem ck_20 : ck4 1 20 = true := by decide +kernel
set_option maxRecDepth 100000 in
theorem ck_21 : ck4 1 21 = true := by decide +kernel
set_option maxRecDepth 100000 in
theorem ck_22 : ck4 1 22 = true := by decide +kernel
set_option maxRecDepth 100000 in
theorem ck_23 : ck4 11 23 = true := by decide +kernel
set_option maxRecDepth 100000 in
theorem ck_24 : ck4 1 24 = true := by decide +kernel
set_option maxRecDepth 100000 in
theorem ck_25 : ck4 1 25 = true := by decide +kernel
set_option maxRecDepth 100000 in
theorem ck_26 : ck4 1 26 = true := by decide +kernel
set_option maxRecDepth 100000 in
theorem ck_27 : ck4 1 27 = true := by decide +kernel
set_option maxRecDepth 100000 in
theorem ck_28 : ck4 1 28 = true := by decide +kernel
set_option maxRecDepth 100000 in
theorem ck_29 : ck4 1 29 = true := by decide +kernel
set_option maxRecDepth 100000 in
theorem ck_30 : ck4 1 30 = true := by decide +kernel
set_option maxRecDepth 100000 in
theorem ck_31 : ck4 1 31 = true := by decide +kernel
