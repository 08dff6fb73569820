set_option maxRecDepth 100000 in
theorem okl_0 : okS 287 0 ((xc_287.drop 0).take 50) = true := by decide +kernel
set_option maxRecDepth 100000 in
theorem okl_1 : okS 287 50 ((xc_287.drop 50).take 50) = true := by decide +kernel
set_option maxRecDepth 100000 in
theorem okl_2 : okS 287 100 ((xc_287.drop 100).take 50) = true := by decide +kernel
set_option maxRecDepth 100000 in
theorem okl_3 : okS 287 150 ((xc_287.drop 150).take 50) = true := by decide +kernel
set_option maxRecDepth 100000 in
theorem okl_4 : okS 287 200 ((xc_287.drop 200).take 50) = true := by decide +kernel
set_option maxRecDepth 100000 in
theorem okl_5 : okS 287 250 ((xc_287.drop 250).take 50) = true := by decide +kernel
set_option maxRecDepth 100000 in
theorem okl_6 : okS 287 300 ((xc_287.drop 300).take 50) = true := by decide +kernel
set_option maxRecDepth 100000 in
theorem okl_7 : okS 287 350 ((xc_287.drop 350).take 50) = true := by decide +kernel
set_option maxRecDepth 100000 in
theorem okl_8 : okS 287 400 ((xc_287.drop 400).take 50) = true := by decide +kernel
set_option maxRecDepth 100000 in
theorem okl_9 : okS 287 450 ((xc_287.drop 450).take 50) = true := by decide +kernel
