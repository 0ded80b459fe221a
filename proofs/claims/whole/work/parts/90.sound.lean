/-! the pure machine's run is the machine's -/
theorem fetch_mem {k pc : Nat} {i : Instr} {len : Nat} (h : fetch k pc = some (i, len)) : ∃ t, ptl[k]? = some t ∧ (pc, i, len) ∈ t := by
  unfold fetch at h
  rw [List.getD_eq_getElem?_getD] at h
  cases ht : ptl[k]? with
  | none => rw [ht] at h; simp at h
  | some t => rw [ht] at h; exact ⟨t, rfl, lk_mem h⟩
theorem fetch_tg {k pc : Nat} {i : Instr} {len : Nat} (h : fetch k pc = some (i, len)) : tgOK i = true := by
  obtain ⟨t, ht, hm⟩ := fetch_mem h
  have h1 := List.all_eq_true.mp tg_all t (List.mem_of_getElem? ht)
  exact List.all_eq_true.mp h1 _ hm
theorem chk_spec {k pc : Nat} {i : Instr} {len : Nat} (h : chk1 k (pc, i, len) = true) : ∃ raw, decode (mB k) pc = .ok (raw, len) ∧ (ilen raw = 0 ∨ ilen raw = len) ∧ rslv (mO k) pc raw = i ∧ pfc k i = true := by
  unfold chk1 at h
  dsimp only at h
  split at h
  · rename_i raw len' he
    simp only [Bool.and_eq_true, decide_eq_true_eq] at h
    obtain ⟨h1, h2, h3, h4⟩ := h
    subst h1
    exact ⟨raw, he, h3, h2, h4⟩
  · cases h
set_option maxRecDepth 20000 in
theorem tb_ok_287 : tb_287.all (chk1 287) = true := (all_chunk (j := 0) 60 tb_ok_law_0 (all_chunk 60 tb_ok_law_1 (all_chunk 60 tb_ok_law_2 (all_chunk 60 tb_ok_law_3 (all_chunk 60 tb_ok_law_4 (all_chunk 60 tb_ok_law_5 (all_chunk 60 tb_ok_law_6 (all_chunk 60 tb_ok_law_7 (all_chunk 60 tb_ok_law_8 (all_chunk 60 tb_ok_law_9 (all_chunk 60 tb_ok_law_10 (all_chunk 60 tb_ok_law_11 (all_chunk 60 tb_ok_law_12 (all_chunk 60 tb_ok_law_13 (all_chunk 60 tb_ok_law_14 (all_chunk 60 tb_ok_law_15 (all_chunk 60 tb_ok_law_16 (all_chunk 60 tb_ok_law_17 (by decide +kernel)))))))))))))))))))
theorem ptl_len : ptl.length = 288 := by decide +kernel
theorem ptl_ok : ∀ (k : Nat) (t : List (Nat × Instr × Nat)), ptl[k]? = some t → t.all (chk1 k) = true
  | 0, t, h => by cases h; exact tb_ok_0
  | 1, t, h => by cases h; exact tb_ok_1
  | 2, t, h => by cases h; exact tb_ok_2
  | 3, t, h => by cases h; exact tb_ok_3
  | 4, t, h => by cases h; exact tb_ok_4
  | 5, t, h => by cases h; exact tb_ok_5
  | 6, t, h => by cases h; exact tb_ok_6
  | 7, t, h => by cases h; exact tb_ok_7
  | 8, t, h => by cases h; exact tb_ok_8
  | 9, t, h => by cases h; exact tb_ok_9
  | 10, t, h => by cases h; exact tb_ok_10
  | 11, t, h => by cases h; exact tb_ok_11
  | 12, t, h => by cases h; exact tb_ok_12
  | 13, t, h => by cases h; exact tb_ok_13
  | 14, t, h => by cases h; exact tb_ok_14
  | 15, t, h => by cases h; exact tb_ok_15
  | 16, t, h => by cases h; exact tb_ok_16
  | 17, t, h => by cases h; exact tb_ok_17
  | 18, t, h => by cases h; exact tb_ok_18
  | 19, t, h => by cases h; exact tb_ok_19
  | 20, t, h => by cases h; exact tb_ok_20
  | 21, t, h => by cases h; exact tb_ok_21
  | 22, t, h => by cases h; exact tb_ok_22
  | 23, t, h => by cases h; exact tb_ok_23
  | 24, t, h => by cases h; exact tb_ok_24
  | 25, t, h => by cases h; exact tb_ok_25
  | 26, t, h => by cases h; exact tb_ok_26
  | 27, t, h => by cases h; exact tb_ok_27
  | 28, t, h => by cases h; exact tb_ok_28
  | 29, t, h => by cases h; exact tb_ok_29
  | 30, t, h => by cases h; exact tb_ok_30
  | 31, t, h => by cases h; exact tb_ok_31
  | 32, t, h => by cases h; exact tb_ok_32
  | 33, t, h => by cases h; exact tb_ok_33
  | 34, t, h => by cases h; exact tb_ok_34
  | 35, t, h => by cases h; exact tb_ok_35
  | 36, t, h => by cases h; exact tb_ok_36
  | 37, t, h => by cases h; exact tb_ok_37
  | 38, t, h => by cases h; exact tb_ok_38
  | 39, t, h => by cases h; exact tb_ok_39
  | 40, t, h => by cases h; exact tb_ok_40
  | 41, t, h => by cases h; exact tb_ok_41
  | 42, t, h => by cases h; exact tb_ok_42
  | 43, t, h => by cases h; exact tb_ok_43
  | 44, t, h => by cases h; exact tb_ok_44
  | 45, t, h => by cases h; exact tb_ok_45
  | 46, t, h => by cases h; exact tb_ok_46
  | 47, t, h => by cases h; exact tb_ok_47
  | 48, t, h => by cases h; exact tb_ok_48
  | 49, t, h => by cases h; exact tb_ok_49
  | 50, t, h => by cases h; exact tb_ok_50
  | 51, t, h => by cases h; exact tb_ok_51
  | 52, t, h => by cases h; exact tb_ok_52
  | 53, t, h => by cases h; exact tb_ok_53
  | 54, t, h => by cases h; exact tb_ok_54
  | 55, t, h => by cases h; exact tb_ok_55
  | 56, t, h => by cases h; exact tb_ok_56
  | 57, t, h => by cases h; exact tb_ok_57
  | 58, t, h => by cases h; exact tb_ok_58
  | 59, t, h => by cases h; exact tb_ok_59
  | 60, t, h => by cases h; exact tb_ok_60
  | 61, t, h => by cases h; exact tb_ok_61
  | 62, t, h => by cases h; exact tb_ok_62
  | 63, t, h => by cases h; exact tb_ok_63
  | 64, t, h => by cases h; exact tb_ok_64
  | 65, t, h => by cases h; exact tb_ok_65
  | 66, t, h => by cases h; exact tb_ok_66
  | 67, t, h => by cases h; exact tb_ok_67
  | 68, t, h => by cases h; exact tb_ok_68
  | 69, t, h => by cases h; exact tb_ok_69
  | 70, t, h => by cases h; exact tb_ok_70
  | 71, t, h => by cases h; exact tb_ok_71
  | 72, t, h => by cases h; exact tb_ok_72
  | 73, t, h => by cases h; exact tb_ok_73
  | 74, t, h => by cases h; exact tb_ok_74
  | 75, t, h => by cases h; exact tb_ok_75
  | 76, t, h => by cases h; exact tb_ok_76
  | 77, t, h => by cases h; exact tb_ok_77
  | 78, t, h => by cases h; exact tb_ok_78
  | 79, t, h => by cases h; exact tb_ok_79
  | 80, t, h => by cases h; exact tb_ok_80
  | 81, t, h => by cases h; exact tb_ok_81
  | 82, t, h => by cases h; exact tb_ok_82
  | 83, t, h => by cases h; exact tb_ok_83
  | 84, t, h => by cases h; exact tb_ok_84
  | 85, t, h => by cases h; exact tb_ok_85
  | 86, t, h => by cases h; exact tb_ok_86
  | 87, t, h => by cases h; exact tb_ok_87
  | 88, t, h => by cases h; exact tb_ok_88
  | 89, t, h => by cases h; exact tb_ok_89
  | 90, t, h => by cases h; exact tb_ok_90
  | 91, t, h => by cases h; exact tb_ok_91
  | 92, t, h => by cases h; exact tb_ok_92
  | 93, t, h => by cases h; exact tb_ok_93
  | 94, t, h => by cases h; exact tb_ok_94
  | 95, t, h => by cases h; exact tb_ok_95
  | 96, t, h => by cases h; exact tb_ok_96
  | 97, t, h => by cases h; exact tb_ok_97
  | 98, t, h => by cases h; exact tb_ok_98
  | 99, t, h => by cases h; exact tb_ok_99
  | 100, t, h => by cases h; exact tb_ok_100
  | 101, t, h => by cases h; exact tb_ok_101
  | 102, t, h => by cases h; exact tb_ok_102
  | 103, t, h => by cases h; exact tb_ok_103
  | 104, t, h => by cases h; exact tb_ok_104
  | 105, t, h => by cases h; exact tb_ok_105
  | 106, t, h => by cases h; exact tb_ok_106
  | 107, t, h => by cases h; exact tb_ok_107
  | 108, t, h => by cases h; exact tb_ok_108
  | 109, t, h => by cases h; exact tb_ok_109
  | 110, t, h => by cases h; exact tb_ok_110
  | 111, t, h => by cases h; exact tb_ok_111
  | 112, t, h => by cases h; exact tb_ok_112
  | 113, t, h => by cases h; exact tb_ok_113
  | 114, t, h => by cases h; exact tb_ok_114
  | 115, t, h => by cases h; exact tb_ok_115
  | 116, t, h => by cases h; exact tb_ok_116
  | 117, t, h => by cases h; exact tb_ok_117
  | 118, t, h => by cases h; exact tb_ok_118
  | 119, t, h => by cases h; exact tb_ok_119
  | 120, t, h => by cases h; exact tb_ok_120
  | 121, t, h => by cases h; exact tb_ok_121
  | 122, t, h => by cases h; exact tb_ok_122
  | 123, t, h => by cases h; exact tb_ok_123
  | 124, t, h => by cases h; exact tb_ok_124
  | 125, t, h => by cases h; exact tb_ok_125
  | 126, t, h => by cases h; exact tb_ok_126
  | 127, t, h => by cases h; exact tb_ok_127
  | 128, t, h => by cases h; exact tb_ok_128
  | 129, t, h => by cases h; exact tb_ok_129
  | 130, t, h => by cases h; exact tb_ok_130
  | 131, t, h => by cases h; exact tb_ok_131
  | 132, t, h => by cases h; exact tb_ok_132
  | 133, t, h => by cases h; exact tb_ok_133
  | 134, t, h => by cases h; exact tb_ok_134
  | 135, t, h => by cases h; exact tb_ok_135
  | 136, t, h => by cases h; exact tb_ok_136
  | 137, t, h => by cases h; exact tb_ok_137
  | 138, t, h => by cases h; exact tb_ok_138
  | 139, t, h => by cases h; exact tb_ok_139
  | 140, t, h => by cases h; exact tb_ok_140
  | 141, t, h => by cases h; exact tb_ok_141
  | 142, t, h => by cases h; exact tb_ok_142
  | 143, t, h => by cases h; exact tb_ok_143
  | 144, t, h => by cases h; exact tb_ok_144
  | 145, t, h => by cases h; exact tb_ok_145
  | 146, t, h => by cases h; exact tb_ok_146
  | 147, t, h => by cases h; exact tb_ok_147
  | 148, t, h => by cases h; exact tb_ok_148
  | 149, t, h => by cases h; exact tb_ok_149
  | 150, t, h => by cases h; exact tb_ok_150
  | 151, t, h => by cases h; exact tb_ok_151
  | 152, t, h => by cases h; exact tb_ok_152
  | 153, t, h => by cases h; exact tb_ok_153
  | 154, t, h => by cases h; exact tb_ok_154
  | 155, t, h => by cases h; exact tb_ok_155
  | 156, t, h => by cases h; exact tb_ok_156
  | 157, t, h => by cases h; exact tb_ok_157
  | 158, t, h => by cases h; exact tb_ok_158
  | 159, t, h => by cases h; exact tb_ok_159
  | 160, t, h => by cases h; exact tb_ok_160
  | 161, t, h => by cases h; exact tb_ok_161
  | 162, t, h => by cases h; exact tb_ok_162
  | 163, t, h => by cases h; exact tb_ok_163
  | 164, t, h => by cases h; exact tb_ok_164
  | 165, t, h => by cases h; exact tb_ok_165
  | 166, t, h => by cases h; exact tb_ok_166
  | 167, t, h => by cases h; exact tb_ok_167
  | 168, t, h => by cases h; exact tb_ok_168
  | 169, t, h => by cases h; exact tb_ok_169
  | 170, t, h => by cases h; exact tb_ok_170
  | 171, t, h => by cases h; exact tb_ok_171
  | 172, t, h => by cases h; exact tb_ok_172
  | 173, t, h => by cases h; exact tb_ok_173
  | 174, t, h => by cases h; exact tb_ok_174
  | 175, t, h => by cases h; exact tb_ok_175
  | 176, t, h => by cases h; exact tb_ok_176
  | 177, t, h => by cases h; exact tb_ok_177
  | 178, t, h => by cases h; exact tb_ok_178
  | 179, t, h => by cases h; exact tb_ok_179
  | 180, t, h => by cases h; exact tb_ok_180
  | 181, t, h => by cases h; exact tb_ok_181
  | 182, t, h => by cases h; exact tb_ok_182
  | 183, t, h => by cases h; exact tb_ok_183
  | 184, t, h => by cases h; exact tb_ok_184
  | 185, t, h => by cases h; exact tb_ok_185
  | 186, t, h => by cases h; exact tb_ok_186
  | 187, t, h => by cases h; exact tb_ok_187
  | 188, t, h => by cases h; exact tb_ok_188
  | 189, t, h => by cases h; exact tb_ok_189
  | 190, t, h => by cases h; exact tb_ok_190
  | 191, t, h => by cases h; exact tb_ok_191
  | 192, t, h => by cases h; exact tb_ok_192
  | 193, t, h => by cases h; exact tb_ok_193
  | 194, t, h => by cases h; exact tb_ok_194
  | 195, t, h => by cases h; exact tb_ok_195
  | 196, t, h => by cases h; exact tb_ok_196
  | 197, t, h => by cases h; exact tb_ok_197
  | 198, t, h => by cases h; exact tb_ok_198
  | 199, t, h => by cases h; exact tb_ok_199
  | 200, t, h => by cases h; exact tb_ok_200
  | 201, t, h => by cases h; exact tb_ok_201
  | 202, t, h => by cases h; exact tb_ok_202
  | 203, t, h => by cases h; exact tb_ok_203
  | 204, t, h => by cases h; exact tb_ok_204
  | 205, t, h => by cases h; exact tb_ok_205
  | 206, t, h => by cases h; exact tb_ok_206
  | 207, t, h => by cases h; exact tb_ok_207
  | 208, t, h => by cases h; exact tb_ok_208
  | 209, t, h => by cases h; exact tb_ok_209
  | 210, t, h => by cases h; exact tb_ok_210
  | 211, t, h => by cases h; exact tb_ok_211
  | 212, t, h => by cases h; exact tb_ok_212
  | 213, t, h => by cases h; exact tb_ok_213
  | 214, t, h => by cases h; exact tb_ok_214
  | 215, t, h => by cases h; exact tb_ok_215
  | 216, t, h => by cases h; exact tb_ok_216
  | 217, t, h => by cases h; exact tb_ok_217
  | 218, t, h => by cases h; exact tb_ok_218
  | 219, t, h => by cases h; exact tb_ok_219
  | 220, t, h => by cases h; exact tb_ok_220
  | 221, t, h => by cases h; exact tb_ok_221
  | 222, t, h => by cases h; exact tb_ok_222
  | 223, t, h => by cases h; exact tb_ok_223
  | 224, t, h => by cases h; exact tb_ok_224
  | 225, t, h => by cases h; exact tb_ok_225
  | 226, t, h => by cases h; exact tb_ok_226
  | 227, t, h => by cases h; exact tb_ok_227
  | 228, t, h => by cases h; exact tb_ok_228
  | 229, t, h => by cases h; exact tb_ok_229
  | 230, t, h => by cases h; exact tb_ok_230
  | 231, t, h => by cases h; exact tb_ok_231
  | 232, t, h => by cases h; exact tb_ok_232
  | 233, t, h => by cases h; exact tb_ok_233
  | 234, t, h => by cases h; exact tb_ok_234
  | 235, t, h => by cases h; exact tb_ok_235
  | 236, t, h => by cases h; exact tb_ok_236
  | 237, t, h => by cases h; exact tb_ok_237
  | 238, t, h => by cases h; exact tb_ok_238
  | 239, t, h => by cases h; exact tb_ok_239
  | 240, t, h => by cases h; exact tb_ok_240
  | 241, t, h => by cases h; exact tb_ok_241
  | 242, t, h => by cases h; exact tb_ok_242
  | 243, t, h => by cases h; exact tb_ok_243
  | 244, t, h => by cases h; exact tb_ok_244
  | 245, t, h => by cases h; exact tb_ok_245
  | 246, t, h => by cases h; exact tb_ok_246
  | 247, t, h => by cases h; exact tb_ok_247
  | 248, t, h => by cases h; exact tb_ok_248
  | 249, t, h => by cases h; exact tb_ok_249
  | 250, t, h => by cases h; exact tb_ok_250
  | 251, t, h => by cases h; exact tb_ok_251
  | 252, t, h => by cases h; exact tb_ok_252
  | 253, t, h => by cases h; exact tb_ok_253
  | 254, t, h => by cases h; exact tb_ok_254
  | 255, t, h => by cases h; exact tb_ok_255
  | 256, t, h => by cases h; exact tb_ok_256
  | 257, t, h => by cases h; exact tb_ok_257
  | 258, t, h => by cases h; exact tb_ok_258
  | 259, t, h => by cases h; exact tb_ok_259
  | 260, t, h => by cases h; exact tb_ok_260
  | 261, t, h => by cases h; exact tb_ok_261
  | 262, t, h => by cases h; exact tb_ok_262
  | 263, t, h => by cases h; exact tb_ok_263
  | 264, t, h => by cases h; exact tb_ok_264
  | 265, t, h => by cases h; exact tb_ok_265
  | 266, t, h => by cases h; exact tb_ok_266
  | 267, t, h => by cases h; exact tb_ok_267
  | 268, t, h => by cases h; exact tb_ok_268
  | 269, t, h => by cases h; exact tb_ok_269
  | 270, t, h => by cases h; exact tb_ok_270
  | 271, t, h => by cases h; exact tb_ok_271
  | 272, t, h => by cases h; exact tb_ok_272
  | 273, t, h => by cases h; exact tb_ok_273
  | 274, t, h => by cases h; exact tb_ok_274
  | 275, t, h => by cases h; exact tb_ok_275
  | 276, t, h => by cases h; exact tb_ok_276
  | 277, t, h => by cases h; exact tb_ok_277
  | 278, t, h => by cases h; exact tb_ok_278
  | 279, t, h => by cases h; exact tb_ok_279
  | 280, t, h => by cases h; exact tb_ok_280
  | 281, t, h => by cases h; exact tb_ok_281
  | 282, t, h => by cases h; exact tb_ok_282
  | 283, t, h => by cases h; exact tb_ok_283
  | 284, t, h => by cases h; exact tb_ok_284
  | 285, t, h => by cases h; exact tb_ok_285
  | 286, t, h => by cases h; exact tb_ok_286
  | 287, t, h => by cases h; exact tb_ok_287
  | n + 288, t, h => absurd (List.getElem?_eq_some_iff.mp h).1 (by rw [ptl_len]; omega)
theorem fetch_ok {k pc : Nat} {i : Instr} {len : Nat} (h : fetch k pc = some (i, len)) : ∃ raw, decode (mB k) pc = .ok (raw, len) ∧ (ilen raw = 0 ∨ ilen raw = len) ∧ rslv (mO k) pc raw = i ∧ pfc k i = true := by
  obtain ⟨t, ht, hm⟩ := fetch_mem h
  exact chk_spec (List.all_eq_true.mp (ptl_ok k t ht) _ hm)
theorem mf_all : ∀ k, k < 287 → mOK k = true := by
  intro k hk
  by_cases h0 : k < 24
  · exact List.all_eq_true.mp mf_ok0 k (List.mem_drop_iff_getElem.mpr ⟨k - 0, by simp <;> omega, by simp <;> omega⟩)
  by_cases h1 : k < 48
  · exact List.all_eq_true.mp mf_ok1 k (List.mem_drop_iff_getElem.mpr ⟨k - 24, by simp <;> omega, by simp <;> omega⟩)
  by_cases h2 : k < 72
  · exact List.all_eq_true.mp mf_ok2 k (List.mem_drop_iff_getElem.mpr ⟨k - 48, by simp <;> omega, by simp <;> omega⟩)
  by_cases h3 : k < 96
  · exact List.all_eq_true.mp mf_ok3 k (List.mem_drop_iff_getElem.mpr ⟨k - 72, by simp <;> omega, by simp <;> omega⟩)
  by_cases h4 : k < 120
  · exact List.all_eq_true.mp mf_ok4 k (List.mem_drop_iff_getElem.mpr ⟨k - 96, by simp <;> omega, by simp <;> omega⟩)
  by_cases h5 : k < 144
  · exact List.all_eq_true.mp mf_ok5 k (List.mem_drop_iff_getElem.mpr ⟨k - 120, by simp <;> omega, by simp <;> omega⟩)
  by_cases h6 : k < 168
  · exact List.all_eq_true.mp mf_ok6 k (List.mem_drop_iff_getElem.mpr ⟨k - 144, by simp <;> omega, by simp <;> omega⟩)
  by_cases h7 : k < 192
  · exact List.all_eq_true.mp mf_ok7 k (List.mem_drop_iff_getElem.mpr ⟨k - 168, by simp <;> omega, by simp <;> omega⟩)
  by_cases h8 : k < 216
  · exact List.all_eq_true.mp mf_ok8 k (List.mem_drop_iff_getElem.mpr ⟨k - 192, by simp <;> omega, by simp <;> omega⟩)
  by_cases h9 : k < 240
  · exact List.all_eq_true.mp mf_ok9 k (List.mem_drop_iff_getElem.mpr ⟨k - 216, by simp <;> omega, by simp <;> omega⟩)
  by_cases h10 : k < 264
  · exact List.all_eq_true.mp mf_ok10 k (List.mem_drop_iff_getElem.mpr ⟨k - 240, by simp <;> omega, by simp <;> omega⟩)
  by_cases h11 : k < 287
  · exact List.all_eq_true.mp mf_ok11 k (List.mem_drop_iff_getElem.mpr ⟨k - 264, by simp <;> omega, by simp <;> omega⟩)
  omega
theorem xs_mono {h h' : pheap} {n pc' : Nat} {ls st ls' st' : List Value} {i : Instr} (hx : xs h n ls st i = some (h', pc', ls', st')) : h.1 ≤ h'.1 ∧ h.2.1 ≤ h'.2.1 ∧ ls'.length = ls.length := by
  have fin1 : ∀ {a b : pheap} {x y z : Nat} {w : Value}, b = hset a x y w → a.1 ≤ b.1 ∧ a.2.1 ≤ b.2.1 := by
    rintro a b x y z w rfl
    exact ⟨Nat.le_refl _, Nat.le_refl _⟩
  cases i <;> dsimp only [xs] at hx
  all_goals (try (cases hx; exact ⟨Nat.le_refl _, Nat.le_refl _, rfl⟩))
  all_goals (repeat' (split at hx))
  all_goals (try (cases hx; done))
  all_goals (try (cases hx; exact ⟨Nat.le_refl _, Nat.le_refl _, rfl⟩))
  all_goals (try (cases hx; exact ⟨Nat.le_succ _, Nat.le_add_right _ _, rfl⟩))
  all_goals (try (obtain ⟨l2, hs, he⟩ := Option.map_eq_some_iff.mp hx; cases he; first | exact ⟨Nat.le_refl _, Nat.le_refl _, (st1_len hs).2⟩ | exact ⟨Nat.le_refl _, Nat.le_refl _, (st2_len hs).2⟩ | exact ⟨Nat.le_refl _, Nat.le_refl _, rfl⟩))
  all_goals (try (cases hx; exact ⟨by show h.1 ≤ h.1 + 1 + _; omega, by show h.2.1 ≤ h.2.1 + _; omega, rfl⟩))
theorem xin_mono {j : Nat} {h h' : pheap} {st rest : List Value} {r : Option Value} (hx : xin j h st = some (r, h', rest)) : h.1 ≤ h'.1 ∧ h.2.1 ≤ h'.2.1 := by
  unfold xin at hx
  repeat' (split at hx)
  all_goals (try (cases hx; done))
  all_goals (try (cases hx; exact ⟨Nat.le_refl _, Nat.le_refl _⟩))
  all_goals (try (cases hx; exact ⟨Nat.le_succ _, Nat.le_add_right _ _⟩))
theorem xc_mono {F : Nat → pheap → Nat → Nat → List Value → List Value → Option (Option Value × pheap)} (hF : ∀ d h k pc ls st r h', F d h k pc ls st = some (r, h') → h.1 ≤ h'.1 ∧ h.2.1 ≤ h'.2.1) {d : Nat} {h h' : pheap} {k pc j kd : Nat} {ls st : List Value} {r : Option Value} (hx : xc F d h k pc ls st j kd = some (r, h')) : h.1 ≤ h'.1 ∧ h.2.1 ≤ h'.2.1 := by
  unfold xc at hx
  split at hx
  · cases hx
  · split at hx
    · split at hx
      · split at hx
        · cases hx
        · rename_i r2 h2 rest hq
          split at hx
          · have h1 := xin_mono hq
            have h3 := hF _ _ _ _ _ _ _ _ hx
            omega
          · cases hx
      · cases hx
    · split at hx
      · cases hx
      · split at hx
        · split at hx
          · cases hx
          · rename_i r2 h2 hq
            have h1 := hF _ _ _ _ _ _ _ _ hq
            have h3 := hF _ _ _ _ _ _ _ _ hx
            omega
        · cases hx
theorem xe_mono : ∀ (n d : Nat) (h : pheap) (k pc : Nat) (ls st : List Value) (r : Option Value) (h' : pheap), xe n d h k pc ls st = some (r, h') → h.1 ≤ h'.1 ∧ h.2.1 ≤ h'.2.1
  | 0, d, h, k, pc, ls, st, r, h', hx => by cases hx
  | n + 1, d, h, k, pc, ls, st, r, h', hx => by
    have ih := xe_mono n
    unfold xe at hx
    split at hx
    · cases hx
    · rename_i i len hf
      split at hx
      · (repeat' (split at hx)) <;> first | (cases hx; exact ⟨Nat.le_refl _, Nat.le_refl _⟩) | cases hx
      · (repeat' (split at hx)) <;> first | (cases hx; exact ⟨Nat.le_refl _, Nat.le_refl _⟩) | cases hx
      · (repeat' (split at hx)) <;> first | (cases hx; exact ⟨Nat.le_refl _, Nat.le_refl _⟩) | cases hx
      · (repeat' (split at hx)) <;> first | (cases hx; exact ⟨Nat.le_refl _, Nat.le_refl _⟩) | cases hx
      · exact xc_mono ih hx
      · exact xc_mono ih hx
      · exact xc_mono ih hx
      · split at hx
        · cases hx
        · rename_i h2 pc2 ls2 st2 hq
          have h1 := xs_mono hq
          have h3 := ih _ _ _ _ _ _ _ _ hx
          omega
