set_option maxRecDepth 100000 in
theorem ok_160 : okM 160 = true := by decide +kernel
set_option maxRecDepth 100000 in
theorem ok_161 : okM 161 = true := by decide +kernel
set_option maxRecDepth 100000 in
theorem ok_162 : okM 162 = true := by decide +kernel
set_option maxRecDepth 100000 in
theorem ok_163 : okM 163 = true := by decide +kernel
set_option maxRecDepth 100000 in
theorem ok_164 : okM 164 = true := by decide +kernel
set_option maxRecDepth 100000 in
theorem ok_165 : okM 165 = true := by decide +kernel
set_option maxRecDepth 100000 in
theorem ok_166 : okM 166 = true := by decide +kernel
set_option maxRecDepth 100000 in
theorem ok_167 : okM 167 = true := by decide +kernel
set_option maxRecDepth 100000 in
theorem ok_168 : okM 168 = true := by decide +kernel
set_option maxRecDepth 100000 in
theorem ok_169 : okM 169 = true := by decide +kernel
set_option maxRecDepth 100000 in
theorem ok_170 : okM 170 = true := by decide +kernel
set_option maxRecDepth 100000 in
theorem ok_171 : okM 171 = true := by decide +kernel
set_option maxRecDepth 100000 in
theorem ok_172 : okM 172 = true := by decide +kernel
set_option maxRecDepth 100000 in
theorem ok_173 : okM 173 = true := by decide +kernel
set_option maxRecDepth 100000 in
theorem ok_174 : okM 174 = true := by decide +kernel
set_option maxRecDepth 100000 in
theorem ok_175 : okM 175 = true := by decide +kernel
set_option maxRecDepth 100000 in
theorem ok_176 : okM 176 = true := by decide +kernel
set_option maxRecDepth 100000 in
theorem ok_177 : okM 177 = true := by decide +kernel
set_option maxRecDepth 100000 in
theorem ok_178 : okM 178 = true := by decide +kernel
set_option maxRecDepth 100000 in
theorem ok_179 : okM 179 = true := by decide +kernel
set_option maxRecDepth 100000 in
theorem ok_180 : okM 180 = true := by decide +kernel
set_option maxRecDepth 100000 in
theorem ok_181 : okM 181 = true := by decide +kernel
set_option maxRecDepth 100000 in
theorem ok_182 : okM 182 = true := by decide +kernel
set_option maxRecDepth 100000 in
theorem ok_183 : okM 183 = true := by decide +kernel
set_option maxRecDepth 100000 in
theorem ok_184 : okM 184 = true := by decide +kernel
set_option maxRecDepth 100000 in
theorem ok_185 : okM 185 = true := by decide +kernel
set_option maxRecDepth 100000 in
theorem ok_186 : okM 186 = true := by decide +kernel
set_option maxRecDepth 100000 in
theorem ok_187 : okM 187 = true := by decide +kernel
set_option maxRecDepth 100000 in
theorem ok_188 : okM 188 = true := by decide +kernel
set_option maxRecDepth 100000 in
theorem ok_189 : okM 189 = true := by decide +kernel
set_option maxRecDepth 100000 in
theorem ok_190 : okM 190 = true := by decide +kernel
set_option maxRecDepth 100000 in
theorem ok_191 : okM 191 = true := by decide +kernel
