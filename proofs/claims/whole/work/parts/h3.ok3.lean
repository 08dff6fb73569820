set_option maxRecDepth 100000 in
theorem ok_96 : okM 96 = true := by decide +kernel
set_option maxRecDepth 100000 in
theorem ok_97 : okM 97 = true := by decide +kernel
set_option maxRecDepth 100000 in
theorem ok_98 : okM 98 = true := by decide +kernel
set_option maxRecDepth 100000 in
theorem ok_99 : okM 99 = true := by decide +kernel
set_option maxRecDepth 100000 in
theorem ok_100 : okM 100 = true := by decide +kernel
set_option maxRecDepth 100000 in
theorem ok_101 : okM 101 = true := by decide +kernel
set_option maxRecDepth 100000 in
theorem ok_102 : okM 102 = true := by decide +kernel
set_option maxRecDepth 100000 in
theorem ok_103 : okM 103 = true := by decide +kernel
set_option maxRecDepth 100000 in
theorem ok_104 : okM 104 = true := by decide +kernel
set_option maxRecDepth 100000 in
theorem ok_105 : okM 105 = true := by decide +kernel
set_option maxRecDepth 100000 in
theorem ok_106 : okM 106 = true := by decide +kernel
set_option maxRecDepth 100000 in
theorem ok_107 : okM 107 = true := by decide +kernel
set_option maxRecDepth 100000 in
theorem ok_108 : okM 108 = true := by decide +kernel
set_option maxRecDepth 100000 in
theorem ok_109 : okM 109 = true := by decide +kernel
set_option maxRecDepth 100000 in
theorem ok_110 : okM 110 = true := by decide +kernel
set_option maxRecDepth 100000 in
theorem ok_111 : okM 111 = true := by decide +kernel
set_option maxRecDepth 100000 in
theorem ok_112 : okM 112 = true := by decide +kernel
set_option maxRecDepth 100000 in
theorem ok_113 : okM 113 = true := by decide +kernel
set_option maxRecDepth 100000 in
theorem ok_114 : okM 114 = true := by decide +kernel
set_option maxRecDepth 100000 in
theorem ok_115 : okM 115 = true := by decide +kernel
set_option maxRecDepth 100000 in
theorem ok_116 : okM 116 = true := by decide +kernel
set_option maxRecDepth 100000 in
theorem ok_117 : okM 117 = true := by decide +kernel
set_option maxRecDepth 100000 in
theorem ok_118 : okM 118 = true := by decide +kernel
set_option maxRecDepth 100000 in
theorem ok_119 : okM 119 = true := by decide +kernel
set_option maxRecDepth 100000 in
theorem ok_120 : okM 120 = true := by decide +kernel
set_option maxRecDepth 100000 in
theorem ok_121 : okM 121 = true := by decide +kernel
set_option maxRecDepth 100000 in
theorem ok_122 : okM 122 = true := by decide +kernel
set_option maxRecDepth 100000 in
theorem ok_123 : okM 123 = true := by decide +kernel
set_option maxRecDepth 100000 in
theorem ok_124 : okM 124 = true := by decide +kernel
set_option maxRecDepth 100000 in
theorem ok_125 : okM 125 = true := by decide +kernel
set_option maxRecDepth 100000 in
theorem ok_126 : okM 126 = true := by decide +kernel
set_option maxRecDepth 100000 in
theorem ok_127 : okM 127 = true := by decide +kernel
