set_option maxRecDepth 100000 in
theorem ok_192 : okM 192 = true := by decide +kernel
set_option maxRecDepth 100000 in
theorem ok_193 : okM 193 = true := by decide +kernel
set_option maxRecDepth 100000 in
theorem ok_194 : okM 194 = true := by decide +kernel
set_option maxRecDepth 100000 in
theorem ok_195 : okM 195 = true := by decide +kernel
set_option maxRecDepth 100000 in
theorem ok_196 : okM 196 = true := by decide +kernel
set_option maxRecDepth 100000 in
theorem ok_197 : okM 197 = true := by decide +kernel
set_option maxRecDepth 100000 in
theorem ok_198 : okM 198 = true := by decide +kernel
set_option maxRecDepth 100000 in
theorem ok_199 : okM 199 = true := by decide +kernel
set_option maxRecDepth 100000 in
theorem ok_200 : okM 200 = true := by decide +kernel
set_option maxRecDepth 100000 in
theorem ok_201 : okM 201 = true := by decide +kernel
set_option maxRecDepth 100000 in
theorem ok_202 : okM 202 = true := by decide +kernel
set_option maxRecDepth 100000 in
theorem ok_203 : okM 203 = true := by decide +kernel
set_option maxRecDepth 100000 in
theorem ok_204 : okM 204 = true := by decide +kernel
set_option maxRecDepth 100000 in
theorem ok_205 : okM 205 = true := by decide +kernel
set_option maxRecDepth 100000 in
theorem ok_206 : okM 206 = true := by decide +kernel
set_option maxRecDepth 100000 in
theorem ok_207 : okM 207 = true := by decide +kernel
set_option maxRecDepth 100000 in
theorem ok_208 : okM 208 = true := by decide +kernel
set_option maxRecDepth 100000 in
theorem ok_209 : okM 209 = true := by decide +kernel
set_option maxRecDepth 100000 in
theorem ok_210 : okM 210 = true := by decide +kernel
set_option maxRecDepth 100000 in
theorem ok_211 : okM 211 = true := by decide +kernel
set_option maxRecDepth 100000 in
theorem ok_212 : okM 212 = true := by decide +kernel
set_option maxRecDepth 100000 in
theorem ok_213 : okM 213 = true := by decide +kernel
set_option maxRecDepth 100000 in
theorem ok_214 : okM 214 = true := by decide +kernel
set_option maxRecDepth 100000 in
theorem ok_215 : okM 215 = true := by decide +kernel
set_option maxRecDepth 100000 in
theorem ok_216 : okM 216 = true := by decide +kernel
set_option maxRecDepth 100000 in
theorem ok_217 : okM 217 = true := by decide +kernel
set_option maxRecDepth 100000 in
theorem ok_218 : okM 218 = true := by decide +kernel
set_option maxRecDepth 100000 in
theorem ok_219 : okM 219 = true := by decide +kernel
set_option maxRecDepth 100000 in
theorem ok_220 : okM 220 = true := by decide +kernel
set_option maxRecDepth 100000 in
theorem ok_221 : okM 221 = true := by decide +kernel
set_option maxRecDepth 100000 in
theorem ok_222 : okM 222 = true := by decide +kernel
set_option maxRecDepth 100000 in
theorem ok_223 : okM 223 = true := by decide +kernel
