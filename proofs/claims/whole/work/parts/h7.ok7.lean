set_option maxRecDepth 100000 in
theorem ok_224 : okM 224 = true := by decide +kernel
set_option maxRecDepth 100000 in
theorem ok_225 : okM 225 = true := by decide +kernel
set_option maxRecDepth 100000 in
theorem ok_226 : okM 226 = true := by decide +kernel
set_option maxRecDepth 100000 in
theorem ok_227 : okM 227 = true := by decide +kernel
set_option maxRecDepth 100000 in
theorem ok_228 : okM 228 = true := by decide +kernel
set_option maxRecDepth 100000 in
theorem ok_229 : okM 229 = true := by decide +kernel
set_option maxRecDepth 100000 in
theorem ok_230 : okM 230 = true := by decide +kernel
set_option maxRecDepth 100000 in
theorem ok_231 : okM 231 = true := by decide +kernel
set_option maxRecDepth 100000 in
theorem ok_232 : okM 232 = true := by decide +kernel
set_option maxRecDepth 100000 in
theorem ok_233 : okM 233 = true := by decide +kernel
set_option maxRecDepth 100000 in
theorem ok_234 : okM 234 = true := by decide +kernel
set_option maxRecDepth 100000 in
theorem ok_235 : okM 235 = true := by decide +kernel
set_option maxRecDepth 100000 in
theorem ok_236 : okM 236 = true := by decide +kernel
set_option maxRecDepth 100000 in
theorem ok_237 : okM 237 = true := by decide +kernel
set_option maxRecDepth 100000 in
theorem ok_238 : okM 238 = true := by decide +kernel
set_option maxRecDepth 100000 in
theorem ok_239 : okM 239 = true := by decide +kernel
set_option maxRecDepth 100000 in
theorem ok_240 : okM 240 = true := by decide +kernel
set_option maxRecDepth 100000 in
theorem ok_241 : okM 241 = true := by decide +kernel
set_option maxRecDepth 100000 in
theorem ok_242 : okM 242 = true := by decide +kernel
set_option maxRecDepth 100000 in
theorem ok_243 : okM 243 = true := by decide +kernel
set_option maxRecDepth 100000 in
theorem ok_244 : okM 244 = true := by decide +kernel
set_option maxRecDepth 100000 in
theorem ok_245 : okM 245 = true := by decide +kernel
set_option maxRecDepth 100000 in
theorem ok_246 : okM 246 = true := by decide +kernel
set_option maxRecDepth 100000 in
theorem ok_247 : okM 247 = true := by decide +kernel
set_option maxRecDepth 100000 in
theorem ok_248 : okM 248 = true := by decide +kernel
set_option maxRecDepth 100000 in
theorem ok_249 : okM 249 = true := by decide +kernel
set_option maxRecDepth 100000 in
theorem ok_250 : okM 250 = true := by decide +kernel
set_option maxRecDepth 100000 in
theorem ok_251 : okM 251 = true := by decide +kernel
set_option maxRecDepth 100000 in
theorem ok_252 : okM 252 = true := by decide +kernel
set_option maxRecDepth 100000 in
theorem ok_253 : okM 253 = true := by decide +kernel
set_option maxRecDepth 100000 in
theorem ok_254 : okM 254 = true := by decide +kernel
set_option maxRecDepth 100000 in
theorem ok_255 : okM 255 = true := by decide +kernel
