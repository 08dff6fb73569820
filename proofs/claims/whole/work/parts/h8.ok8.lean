set_option maxRecDepth 100000 in
theorem ok_256 : okM 256 = true := by decide +kernel
set_option maxRecDepth 100000 in
theorem ok_257 : okM 257 = true := by decide +kernel
set_option maxRecDepth 100000 in
theorem ok_258 : okM 258 = true := by decide +kernel
set_option maxRecDepth 100000 in
theorem ok_259 : okM 259 = true := by decide +kernel
set_option maxRecDepth 100000 in
theorem ok_260 : okM 260 = true := by decide +kernel
set_option maxRecDepth 100000 in
theorem ok_261 : okM 261 = true := by decide +kernel
set_option maxRecDepth 100000 in
theorem ok_262 : okM 262 = true := by decide +kernel
set_option maxRecDepth 100000 in
theorem ok_263 : okM 263 = true := by decide +kernel
set_option maxRecDepth 100000 in
theorem ok_264 : okM 264 = true := by decide +kernel
set_option maxRecDepth 100000 in
theorem ok_265 : okM 265 = true := by decide +kernel
set_option maxRecDepth 100000 in
theorem ok_266 : okM 266 = true := by decide +kernel
set_option maxRecDepth 100000 in
theorem ok_267 : okM 267 = true := by decide +kernel
set_option maxRecDepth 100000 in
theorem ok_268 : okM 268 = true := by decide +kernel
set_option maxRecDepth 100000 in
theorem ok_269 : okM 269 = true := by decide +kernel
set_option maxRecDepth 100000 in
theorem ok_270 : okM 270 = true := by decide +kernel
set_option maxRecDepth 100000 in
theorem ok_271 : okM 271 = true := by decide +kernel
set_option maxRecDepth 100000 in
theorem ok_272 : okM 272 = true := by decide +kernel
set_option maxRecDepth 100000 in
theorem ok_273 : okM 273 = true := by decide +kernel
set_option maxRecDepth 100000 in
theorem ok_274 : okM 274 = true := by decide +kernel
set_option maxRecDepth 100000 in
theorem ok_275 : okM 275 = true := by decide +kernel
set_option maxRecDepth 100000 in
theorem ok_276 : okM 276 = true := by decide +kernel
set_option maxRecDepth 100000 in
theorem ok_277 : okM 277 = true := by decide +kernel
set_option maxRecDepth 100000 in
theorem ok_278 : okM 278 = true := by decide +kernel
set_option maxRecDepth 100000 in
theorem ok_279 : okM 279 = true := by decide +kernel
set_option maxRecDepth 100000 in
theorem ok_280 : okM 280 = true := by decide +kernel
set_option maxRecDepth 100000 in
theorem ok_281 : okM 281 = true := by decide +kernel
set_option maxRecDepth 100000 in
theorem ok_282 : okM2 282 = true := by decide +kernel
set_option maxRecDepth 100000 in
theorem ok_283 : okM2 283 = true := by decide +kernel
set_option maxRecDepth 100000 in
theorem ok_284 : okM2 284 = true := by decide +kernel
set_option maxRecDepth 100000 in
theorem ok_285 : okM2 285 = true := by decide +kernel
set_option maxRecDepth 100000 in
theorem ok_286 : okM 286 = true := by decide +kernel
