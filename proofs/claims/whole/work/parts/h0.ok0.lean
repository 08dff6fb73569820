set_option maxRecDepth 100000 in
theorem ok_0 : okM 0 = true := by decide +kernel
set_option maxRecDepth 100000 in
theorem ok_1 : okM 1 = true := by decide +kernel
set_option maxRecDepth 100000 in
theorem ok_2 : okM 2 = true := by decide +kernel
set_option maxRecDepth 100000 in
theorem ok_3 : okM 3 = true := by decide +kernel
set_option maxRecDepth 100000 in
theorem ok_4 : okM 4 = true := by decide +kernel
set_option maxRecDepth 100000 in
theorem ok_5 : okM 5 = true := by decide +kernel
set_option maxRecDepth 100000 in
theorem ok_6 : okM 6 = true := by decide +kernel
set_option maxRecDepth 100000 in
theorem ok_7 : okM 7 = true := by decide +kernel
set_option maxRecDepth 100000 in
theorem ok_8 : okM 8 = true := by decide +kernel
set_option maxRecDepth 100000 in
theorem ok_9 : okM 9 = true := by decide +kernel
set_option maxRecDepth 100000 in
theorem ok_10 : okM 10 = true := by decide +kernel
set_option maxRecDepth 100000 in
theorem ok_11 : okM 11 = true := by decide +kernel
set_option maxRecDepth 100000 in
theorem ok_12 : okM 12 = true := by decide +kernel
set_option maxRecDepth 100000 in
theorem ok_13 : okM 13 = true := by decide +kernel
set_option maxRecDepth 100000 in
theorem ok_14 : okM 14 = true := by decide +kernel
set_option maxRecDepth 100000 in
theorem ok_15 : okM 15 = true := by decide +kernel
set_option maxRecDepth 100000 in
theorem ok_16 : okM 16 = true := by decide +kernel
set_option maxRecDepth 100000 in
theorem ok_17 : okM 17 = true := by decide +kernel
set_option maxRecDepth 100000 in
theorem ok_18 : okM 18 = true := by decide +kernel
set_option maxRecDepth 100000 in
theorem ok_19 : okM 19 = true := by decide +kernel
set_option maxRecDepth 100000 in
theorem ok_20 : okM 20 = true := by decide +kernel
set_option maxRecDepth 100000 in
theorem ok_21 : okM 21 = true := by decide +kernel
set_option maxRecDepth 100000 in
theorem ok_22 : okM 22 = true := by decide +kernel
set_option maxRecDepth 100000 in
theorem ok_23 : okM 23 = true := by decide +kernel
set_option maxRecDepth 100000 in
theorem ok_24 : okM 24 = true := by decide +kernel
set_option maxRecDepth 100000 in
theorem ok_25 : okM 25 = true := by decide +kernel
set_option maxRecDepth 100000 in
theorem ok_26 : okM 26 = true := by decide +kernel
set_option maxRecDepth 100000 in
theorem ok_27 : okM 27 = true := by decide +kernel
set_option maxRecDepth 100000 in
theorem ok_28 : okM 28 = true := by decide +kernel
set_option maxRecDepth 100000 in
theorem ok_29 : okM 29 = true := by decide +kernel
set_option maxRecDepth 100000 in
theorem ok_30 : okM 30 = true := by decide +kernel
set_option maxRecDepth 100000 in
theorem ok_31 : okM 31 = true := by decide +kernel
