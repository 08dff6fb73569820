set_option maxRecDepth 100000 in
theorem okl_10 : okS 287 500 ((xc_287.drop 500).take 50) = true := by decide +kernel
set_option maxRecDepth 100000 in
theorem okl_11 : okS 287 550 ((xc_287.drop 550).take 50) = true := by decide +kernel
set_option maxRecDepth 100000 in
theorem okl_12 : okS 287 600 ((xc_287.drop 600).take 50) = true := by decide +kernel
set_option maxRecDepth 100000 in
theorem okl_13 : okS 287 650 ((xc_287.drop 650).take 50) = true := by decide +kernel
set_option maxRecDepth 100000 in
theorem okl_14 : okS 287 700 ((xc_287.drop 700).take 50) = true := by decide +kernel
set_option maxRecDepth 100000 in
theorem okl_15 : okS 287 750 ((xc_287.drop 750).take 50) = true := by decide +kernel
set_option maxRecDepth 100000 in
theorem okl_16 : okS 287 800 ((xc_287.drop 800).take 50) = true := by decide +kernel
set_option maxRecDepth 100000 in
theorem okl_17 : okS 287 850 ((xc_287.drop 850).take 50) = true := by decide +kernel
set_option maxRecDepth 100000 in
theorem okl_18 : okS 287 900 ((xc_287.drop 900).take 50) = true := by decide +kernel
