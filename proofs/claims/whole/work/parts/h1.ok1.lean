set_option maxRecDepth 100000 in
theorem ok_32 : okM 32 = true := by decide +kernel
set_option maxRecDepth 100000 in
theorem ok_33 : okM 33 = true := by decide +kernel
set_option maxRecDepth 100000 in
theorem ok_34 : okM 34 = true := by decide +kernel
set_option maxRecDepth 100000 in
theorem ok_35 : okM 35 = true := by decide +kernel
set_option maxRecDepth 100000 in
theorem ok_36 : okM 36 = true := by decide +kernel
set_option maxRecDepth 100000 in
theorem ok_37 : okM 37 = true := by decide +kernel
set_option maxRecDepth 100000 in
theorem ok_38 : okM 38 = true := by decide +kernel
set_option maxRecDepth 100000 in
theorem ok_39 : okM 39 = true := by decide +kernel
set_option maxRecDepth 100000 in
theorem ok_40 : okM 40 = true := by decide +kernel
set_option maxRecDepth 100000 in
theorem ok_41 : okM 41 = true := by decide +kernel
set_option maxRecDepth 100000 in
theorem ok_42 : okM 42 = true := by decide +kernel
set_option maxRecDepth 100000 in
theorem ok_43 : okM 43 = true := by decide +kernel
set_option maxRecDepth 100000 in
theorem ok_44 : okM 44 = true := by decide +kernel
set_option maxRecDepth 100000 in
theorem ok_45 : okM 45 = true := by decide +kernel
set_option maxRecDepth 100000 in
theorem ok_46 : okM 46 = true := by decide +kernel
set_option maxRecDepth 100000 in
theorem ok_47 : okM 47 = true := by decide +kernel
set_option maxRecDepth 100000 in
theorem ok_48 : okM 48 = true := by decide +kernel
set_option maxRecDepth 100000 in
theorem ok_49 : okM 49 = true := by decide +kernel
set_option maxRecDepth 100000 in
theorem ok_50 : okM 50 = true := by decide +kernel
set_option maxRecDepth 100000 in
theorem ok_51 : okM 51 = true := by decide +kernel
set_option maxRecDepth 100000 in
theorem ok_52 : okM 52 = true := by decide +kernel
set_option maxRecDepth 100000 in
theorem ok_53 : okM 53 = true := by decide +kernel
set_option maxRecDepth 100000 in
theorem ok_54 : okM 54 = true := by decide +kernel
set_option maxRecDepth 100000 in
theorem ok_55 : okM 55 = true := by decide +kernel
set_option maxRecDepth 100000 in
theorem ok_56 : okM 56 = true := by decide +kernel
set_option maxRecDepth 100000 in
theorem ok_57 : okM 57 = true := by decide +kernel
set_option maxRecDepth 100000 in
theorem ok_58 : okM 58 = true := by decide +kernel
set_option maxRecDepth 100000 in
theorem ok_59 : okM 59 = true := by decide +kernel
set_option maxRecDepth 100000 in
theorem ok_60 : okM 60 = true := by decide +kernel
set_option maxRecDepth 100000 in
theorem ok_61 : okM 61 = true := by decide +kernel
set_option maxRecDepth 100000 in
theorem ok_62 : okM 62 = true := by decide +kernel
set_option maxRecDepth 100000 in
theorem ok_63 : okM 63 = true := by decide +kernel
