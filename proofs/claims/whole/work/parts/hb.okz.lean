theorem okl_at {q : Nat} (h : okS 287 (50 * q) ((xc_287.drop (50 * q)).take 50) = true) {j : Nat} (h1 : 50 * q ≤ j) (h2 : j < 50 * q + 50) {i : xI} (hi : xc_287[j]? = some i) : okI 287 j i = true := by
  have := okS_at 287 _ _ h (j - 50 * q) i (by rw [List.getElem?_take_of_lt (by omega), List.getElem?_drop, show 50 * q + (j - 50 * q) = j by omega]; exact hi)
  rw [show 50 * q + (j - 50 * q) = j by omega] at this
  exact this
set_option maxRecDepth 100000 in
theorem len_287 : xc_287.length = 903 := by decide +kernel
theorem ok_287 : okM2 287 = true := by
  unfold okM2
  rw [Bool.and_eq_true]
  refine ⟨okS_of 287 _ 0 (fun j i hj => ?_), rfl⟩
  replace hj : xc_287[j]? = some i := hj
  have hlt : j < 903 := by
    have h9 := (List.getElem?_eq_some_iff.mp hj).1
    rw [len_287] at h9
    exact h9
  rw [Nat.zero_add]
  have hq : j / 50 < 19 := by omega
  have h1 : 50 * (j / 50) ≤ j := by omega
  have h2 : j < 50 * (j / 50) + 50 := by omega
  generalize j / 50 = q at hq h1 h2
  match q, hq, h1, h2 with
  | 0, _, h1, h2 => exact okl_at (q := 0) okl_0 h1 h2 hj
  | 1, _, h1, h2 => exact okl_at (q := 1) okl_1 h1 h2 hj
  | 2, _, h1, h2 => exact okl_at (q := 2) okl_2 h1 h2 hj
  | 3, _, h1, h2 => exact okl_at (q := 3) okl_3 h1 h2 hj
  | 4, _, h1, h2 => exact okl_at (q := 4) okl_4 h1 h2 hj
  | 5, _, h1, h2 => exact okl_at (q := 5) okl_5 h1 h2 hj
  | 6, _, h1, h2 => exact okl_at (q := 6) okl_6 h1 h2 hj
  | 7, _, h1, h2 => exact okl_at (q := 7) okl_7 h1 h2 hj
  | 8, _, h1, h2 => exact okl_at (q := 8) okl_8 h1 h2 hj
  | 9, _, h1, h2 => exact okl_at (q := 9) okl_9 h1 h2 hj
  | 10, _, h1, h2 => exact okl_at (q := 10) okl_10 h1 h2 hj
  | 11, _, h1, h2 => exact okl_at (q := 11) okl_11 h1 h2 hj
  | 12, _, h1, h2 => exact okl_at (q := 12) okl_12 h1 h2 hj
  | 13, _, h1, h2 => exact okl_at (q := 13) okl_13 h1 h2 hj
  | 14, _, h1, h2 => exact okl_at (q := 14) okl_14 h1 h2 hj
  | 15, _, h1, h2 => exact okl_at (q := 15) okl_15 h1 h2 hj
  | 16, _, h1, h2 => exact okl_at (q := 16) okl_16 h1 h2 hj
  | 17, _, h1, h2 => exact okl_at (q := 17) okl_17 h1 h2 hj
  | 18, _, h1, h2 => exact okl_at (q := 18) okl_18 h1 h2 hj
  | n + 19, hq, _, _ => omega
theorem okB_0 : ∀ r, r < 32 → okM2 (0 + r) = true := by
  intro r hr
  match r, hr with
  | 0, _ => exact okM_2 ok_0
  | 1, _ => exact okM_2 ok_1
  | 2, _ => exact okM_2 ok_2
  | 3, _ => exact okM_2 ok_3
  | 4, _ => exact okM_2 ok_4
  | 5, _ => exact okM_2 ok_5
  | 6, _ => exact okM_2 ok_6
  | 7, _ => exact okM_2 ok_7
  | 8, _ => exact okM_2 ok_8
  | 9, _ => exact okM_2 ok_9
  | 10, _ => exact okM_2 ok_10
  | 11, _ => exact okM_2 ok_11
  | 12, _ => exact okM_2 ok_12
  | 13, _ => exact okM_2 ok_13
  | 14, _ => exact okM_2 ok_14
  | 15, _ => exact okM_2 ok_15
  | 16, _ => exact okM_2 ok_16
  | 17, _ => exact okM_2 ok_17
  | 18, _ => exact okM_2 ok_18
  | 19, _ => exact okM_2 ok_19
  | 20, _ => exact okM_2 ok_20
  | 21, _ => exact okM_2 ok_21
  | 22, _ => exact okM_2 ok_22
  | 23, _ => exact okM_2 ok_23
  | 24, _ => exact okM_2 ok_24
  | 25, _ => exact okM_2 ok_25
  | 26, _ => exact okM_2 ok_26
  | 27, _ => exact okM_2 ok_27
  | 28, _ => exact okM_2 ok_28
  | 29, _ => exact okM_2 ok_29
  | 30, _ => exact okM_2 ok_30
  | 31, _ => exact okM_2 ok_31
  | n + 32, h => omega
theorem okB_1 : ∀ r, r < 32 → okM2 (32 + r) = true := by
  intro r hr
  match r, hr with
  | 0, _ => exact okM_2 ok_32
  | 1, _ => exact okM_2 ok_33
  | 2, _ => exact okM_2 ok_34
  | 3, _ => exact okM_2 ok_35
  | 4, _ => exact okM_2 ok_36
  | 5, _ => exact okM_2 ok_37
  | 6, _ => exact okM_2 ok_38
  | 7, _ => exact okM_2 ok_39
  | 8, _ => exact okM_2 ok_40
  | 9, _ => exact okM_2 ok_41
  | 10, _ => exact okM_2 ok_42
  | 11, _ => exact okM_2 ok_43
  | 12, _ => exact okM_2 ok_44
  | 13, _ => exact okM_2 ok_45
  | 14, _ => exact okM_2 ok_46
  | 15, _ => exact okM_2 ok_47
  | 16, _ => exact okM_2 ok_48
  | 17, _ => exact okM_2 ok_49
  | 18, _ => exact okM_2 ok_50
  | 19, _ => exact okM_2 ok_51
  | 20, _ => exact okM_2 ok_52
  | 21, _ => exact okM_2 ok_53
  | 22, _ => exact okM_2 ok_54
  | 23, _ => exact okM_2 ok_55
  | 24, _ => exact okM_2 ok_56
  | 25, _ => exact okM_2 ok_57
  | 26, _ => exact okM_2 ok_58
  | 27, _ => exact okM_2 ok_59
  | 28, _ => exact okM_2 ok_60
  | 29, _ => exact okM_2 ok_61
  | 30, _ => exact okM_2 ok_62
  | 31, _ => exact okM_2 ok_63
  | n + 32, h => omega
theorem okB_2 : ∀ r, r < 32 → okM2 (64 + r) = true := by
  intro r hr
  match r, hr with
  | 0, _ => exact okM_2 ok_64
  | 1, _ => exact okM_2 ok_65
  | 2, _ => exact okM_2 ok_66
  | 3, _ => exact okM_2 ok_67
  | 4, _ => exact okM_2 ok_68
  | 5, _ => exact okM_2 ok_69
  | 6, _ => exact okM_2 ok_70
  | 7, _ => exact okM_2 ok_71
  | 8, _ => exact okM_2 ok_72
  | 9, _ => exact okM_2 ok_73
  | 10, _ => exact okM_2 ok_74
  | 11, _ => exact okM_2 ok_75
  | 12, _ => exact okM_2 ok_76
  | 13, _ => exact okM_2 ok_77
  | 14, _ => exact okM_2 ok_78
  | 15, _ => exact okM_2 ok_79
  | 16, _ => exact okM_2 ok_80
  | 17, _ => exact okM_2 ok_81
  | 18, _ => exact okM_2 ok_82
  | 19, _ => exact okM_2 ok_83
  | 20, _ => exact okM_2 ok_84
  | 21, _ => exact okM_2 ok_85
  | 22, _ => exact okM_2 ok_86
  | 23, _ => exact okM_2 ok_87
  | 24, _ => exact okM_2 ok_88
  | 25, _ => exact okM_2 ok_89
  | 26, _ => exact okM_2 ok_90
  | 27, _ => exact okM_2 ok_91
  | 28, _ => exact okM_2 ok_92
  | 29, _ => exact okM_2 ok_93
  | 30, _ => exact okM_2 ok_94
  | 31, _ => exact okM_2 ok_95
  | n + 32, h => omega
theorem okB_3 : ∀ r, r < 32 → okM2 (96 + r) = true := by
  intro r hr
  match r, hr with
  | 0, _ => exact okM_2 ok_96
  | 1, _ => exact okM_2 ok_97
  | 2, _ => exact okM_2 ok_98
  | 3, _ => exact okM_2 ok_99
  | 4, _ => exact okM_2 ok_100
  | 5, _ => exact okM_2 ok_101
  | 6, _ => exact okM_2 ok_102
  | 7, _ => exact okM_2 ok_103
  | 8, _ => exact okM_2 ok_104
  | 9, _ => exact okM_2 ok_105
  | 10, _ => exact okM_2 ok_106
  | 11, _ => exact okM_2 ok_107
  | 12, _ => exact okM_2 ok_108
  | 13, _ => exact okM_2 ok_109
  | 14, _ => exact okM_2 ok_110
  | 15, _ => exact okM_2 ok_111
  | 16, _ => exact okM_2 ok_112
  | 17, _ => exact okM_2 ok_113
  | 18, _ => exact okM_2 ok_114
  | 19, _ => exact okM_2 ok_115
  | 20, _ => exact okM_2 ok_116
  | 21, _ => exact okM_2 ok_117
  | 22, _ => exact okM_2 ok_118
  | 23, _ => exact okM_2 ok_119
  | 24, _ => exact okM_2 ok_120
  | 25, _ => exact okM_2 ok_121
  | 26, _ => exact okM_2 ok_122
  | 27, _ => exact okM_2 ok_123
  | 28, _ => exact okM_2 ok_124
  | 29, _ => exact okM_2 ok_125
  | 30, _ => exact okM_2 ok_126
  | 31, _ => exact okM_2 ok_127
  | n + 32, h => omega
theorem okB_4 : ∀ r, r < 32 → okM2 (128 + r) = true := by
  intro r hr
  match r, hr with
  | 0, _ => exact okM_2 ok_128
  | 1, _ => exact okM_2 ok_129
  | 2, _ => exact okM_2 ok_130
  | 3, _ => exact okM_2 ok_131
  | 4, _ => exact okM_2 ok_132
  | 5, _ => exact okM_2 ok_133
  | 6, _ => exact okM_2 ok_134
  | 7, _ => exact okM_2 ok_135
  | 8, _ => exact okM_2 ok_136
  | 9, _ => exact okM_2 ok_137
  | 10, _ => exact okM_2 ok_138
  | 11, _ => exact okM_2 ok_139
  | 12, _ => exact okM_2 ok_140
  | 13, _ => exact okM_2 ok_141
  | 14, _ => exact okM_2 ok_142
  | 15, _ => exact okM_2 ok_143
  | 16, _ => exact okM_2 ok_144
  | 17, _ => exact okM_2 ok_145
  | 18, _ => exact okM_2 ok_146
  | 19, _ => exact okM_2 ok_147
  | 20, _ => exact okM_2 ok_148
  | 21, _ => exact okM_2 ok_149
  | 22, _ => exact okM_2 ok_150
  | 23, _ => exact okM_2 ok_151
  | 24, _ => exact okM_2 ok_152
  | 25, _ => exact okM_2 ok_153
  | 26, _ => exact okM_2 ok_154
  | 27, _ => exact okM_2 ok_155
  | 28, _ => exact okM_2 ok_156
  | 29, _ => exact okM_2 ok_157
  | 30, _ => exact okM_2 ok_158
  | 31, _ => exact okM_2 ok_159
  | n + 32, h => omega
theorem okB_5 : ∀ r, r < 32 → okM2 (160 + r) = true := by
  intro r hr
  match r, hr with
  | 0, _ => exact okM_2 ok_160
  | 1, _ => exact okM_2 ok_161
  | 2, _ => exact okM_2 ok_162
  | 3, _ => exact okM_2 ok_163
  | 4, _ => exact okM_2 ok_164
  | 5, _ => exact okM_2 ok_165
  | 6, _ => exact okM_2 ok_166
  | 7, _ => exact okM_2 ok_167
  | 8, _ => exact okM_2 ok_168
  | 9, _ => exact okM_2 ok_169
  | 10, _ => exact okM_2 ok_170
  | 11, _ => exact okM_2 ok_171
  | 12, _ => exact okM_2 ok_172
  | 13, _ => exact okM_2 ok_173
  | 14, _ => exact okM_2 ok_174
  | 15, _ => exact okM_2 ok_175
  | 16, _ => exact okM_2 ok_176
  | 17, _ => exact okM_2 ok_177
  | 18, _ => exact okM_2 ok_178
  | 19, _ => exact okM_2 ok_179
  | 20, _ => exact okM_2 ok_180
  | 21, _ => exact okM_2 ok_181
  | 22, _ => exact okM_2 ok_182
  | 23, _ => exact okM_2 ok_183
  | 24, _ => exact okM_2 ok_184
  | 25, _ => exact okM_2 ok_185
  | 26, _ => exact okM_2 ok_186
  | 27, _ => exact okM_2 ok_187
  | 28, _ => exact okM_2 ok_188
  | 29, _ => exact okM_2 ok_189
  | 30, _ => exact okM_2 ok_190
  | 31, _ => exact okM_2 ok_191
  | n + 32, h => omega
theorem okB_6 : ∀ r, r < 32 → okM2 (192 + r) = true := by
  intro r hr
  match r, hr with
  | 0, _ => exact okM_2 ok_192
  | 1, _ => exact okM_2 ok_193
  | 2, _ => exact okM_2 ok_194
  | 3, _ => exact okM_2 ok_195
  | 4, _ => exact okM_2 ok_196
  | 5, _ => exact okM_2 ok_197
  | 6, _ => exact okM_2 ok_198
  | 7, _ => exact okM_2 ok_199
  | 8, _ => exact okM_2 ok_200
  | 9, _ => exact okM_2 ok_201
  | 10, _ => exact okM_2 ok_202
  | 11, _ => exact okM_2 ok_203
  | 12, _ => exact okM_2 ok_204
  | 13, _ => exact okM_2 ok_205
  | 14, _ => exact okM_2 ok_206
  | 15, _ => exact okM_2 ok_207
  | 16, _ => exact okM_2 ok_208
  | 17, _ => exact okM_2 ok_209
  | 18, _ => exact okM_2 ok_210
  | 19, _ => exact okM_2 ok_211
  | 20, _ => exact okM_2 ok_212
  | 21, _ => exact okM_2 ok_213
  | 22, _ => exact okM_2 ok_214
  | 23, _ => exact okM_2 ok_215
  | 24, _ => exact okM_2 ok_216
  | 25, _ => exact okM_2 ok_217
  | 26, _ => exact okM_2 ok_218
  | 27, _ => exact okM_2 ok_219
  | 28, _ => exact okM_2 ok_220
  | 29, _ => exact okM_2 ok_221
  | 30, _ => exact okM_2 ok_222
  | 31, _ => exact okM_2 ok_223
  | n + 32, h => omega
theorem okB_7 : ∀ r, r < 32 → okM2 (224 + r) = true := by
  intro r hr
  match r, hr with
  | 0, _ => exact okM_2 ok_224
  | 1, _ => exact okM_2 ok_225
  | 2, _ => exact okM_2 ok_226
  | 3, _ => exact okM_2 ok_227
  | 4, _ => exact okM_2 ok_228
  | 5, _ => exact okM_2 ok_229
  | 6, _ => exact okM_2 ok_230
  | 7, _ => exact okM_2 ok_231
  | 8, _ => exact okM_2 ok_232
  | 9, _ => exact okM_2 ok_233
  | 10, _ => exact okM_2 ok_234
  | 11, _ => exact okM_2 ok_235
  | 12, _ => exact okM_2 ok_236
  | 13, _ => exact okM_2 ok_237
  | 14, _ => exact okM_2 ok_238
  | 15, _ => exact okM_2 ok_239
  | 16, _ => exact okM_2 ok_240
  | 17, _ => exact okM_2 ok_241
  | 18, _ => exact okM_2 ok_242
  | 19, _ => exact okM_2 ok_243
  | 20, _ => exact okM_2 ok_244
  | 21, _ => exact okM_2 ok_245
  | 22, _ => exact okM_2 ok_246
  | 23, _ => exact okM_2 ok_247
  | 24, _ => exact okM_2 ok_248
  | 25, _ => exact okM_2 ok_249
  | 26, _ => exact okM_2 ok_250
  | 27, _ => exact okM_2 ok_251
  | 28, _ => exact okM_2 ok_252
  | 29, _ => exact okM_2 ok_253
  | 30, _ => exact okM_2 ok_254
  | 31, _ => exact okM_2 ok_255
  | n + 32, h => omega
theorem okB_8 : ∀ r, r < 32 → okM2 (256 + r) = true := by
  intro r hr
  match r, hr with
  | 0, _ => exact okM_2 ok_256
  | 1, _ => exact okM_2 ok_257
  | 2, _ => exact okM_2 ok_258
  | 3, _ => exact okM_2 ok_259
  | 4, _ => exact okM_2 ok_260
  | 5, _ => exact okM_2 ok_261
  | 6, _ => exact okM_2 ok_262
  | 7, _ => exact okM_2 ok_263
  | 8, _ => exact okM_2 ok_264
  | 9, _ => exact okM_2 ok_265
  | 10, _ => exact okM_2 ok_266
  | 11, _ => exact okM_2 ok_267
  | 12, _ => exact okM_2 ok_268
  | 13, _ => exact okM_2 ok_269
  | 14, _ => exact okM_2 ok_270
  | 15, _ => exact okM_2 ok_271
  | 16, _ => exact okM_2 ok_272
  | 17, _ => exact okM_2 ok_273
  | 18, _ => exact okM_2 ok_274
  | 19, _ => exact okM_2 ok_275
  | 20, _ => exact okM_2 ok_276
  | 21, _ => exact okM_2 ok_277
  | 22, _ => exact okM_2 ok_278
  | 23, _ => exact okM_2 ok_279
  | 24, _ => exact okM_2 ok_280
  | 25, _ => exact okM_2 ok_281
  | 26, _ => exact ok_282
  | 27, _ => exact ok_283
  | 28, _ => exact ok_284
  | 29, _ => exact ok_285
  | 30, _ => exact okM_2 ok_286
  | 31, _ => exact ok_287
  | n + 32, h => omega
theorem okAll : ∀ k, k < 288 → okM2 k = true := by
  intro k hk
  have h1 : k % 32 < 32 := Nat.mod_lt _ (by decide)
  have h2 : k / 32 < 9 := by omega
  have h3 : k = 32 * (k / 32) + k % 32 := by omega
  generalize k / 32 = q at h2 h3
  generalize k % 32 = r at h1 h3
  subst h3
  match q, h2 with
  | 0, _ => exact okB_0 r h1
  | 1, _ => exact okB_1 r h1
  | 2, _ => exact okB_2 r h1
  | 3, _ => exact okB_3 r h1
  | 4, _ => exact okB_4 r h1
  | 5, _ => exact okB_5 r h1
  | 6, _ => exact okB_6 r h1
  | 7, _ => exact okB_7 r h1
  | 8, _ => exact okB_8 r h1
  | n + 9, h => omega
