set_option maxRecDepth 100000 in
theorem ok_g0 : okG 0 32 = true := by decide +kernel
set_option maxRecDepth 100000 in
theorem ok_g1 : okG 1 32 = true := by decide +kernel
set_option maxRecDepth 100000 in
theorem ok_g2 : okG 2 32 = true := by decide +kernel
set_option maxRecDepth 100000 in
theorem ok_g3 : okG 3 32 = true := by decide +kernel
set_option maxRecDepth 100000 in
theorem ok_g4 : okG 4 32 = true := by decide +kernel
set_option maxRecDepth 100000 in
theorem ok_g5 : okG 5 32 = true := by decide +kernel
set_option maxRecDepth 100000 in
theorem ok_g6 : okG 6 32 = true := by decide +kernel
set_option maxRecDepth 100000 in
theorem ok_g7 : okG 7 32 = true := by decide +kernel
set_option maxRecDepth 100000 in
theorem ok_g8 : okG 8 32 = true := by decide +kernel
