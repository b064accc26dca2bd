theorem ok_276_0 : ∀ e ∈ (pg276.drop 0).take 60, okb 276 e = true := by decide +kernel
theorem ok_276_60 : ∀ e ∈ (pg276.drop 60).take 60, okb 276 e = true := by decide +kernel
theorem ok_276_120 : ∀ e ∈ (pg276.drop 120).take 60, okb 276 e = true := by decide +kernel
theorem ok_276_180 : ∀ e ∈ (pg276.drop 180).take 60, okb 276 e = true := by decide +kernel
theorem ok_276_240 : ∀ e ∈ (pg276.drop 240).take 60, okb 276 e = true := by decide +kernel
theorem ok_276_300 : ∀ e ∈ (pg276.drop 300).take 60, okb 276 e = true := by decide +kernel
theorem ok_276_360 : ∀ e ∈ (pg276.drop 360).take 60, okb 276 e = true := by decide +kernel
theorem ok_276_420 : ∀ e ∈ (pg276.drop 420).take 60, okb 276 e = true := by decide +kernel
theorem ok_276_480 : ∀ e ∈ (pg276.drop 480).take 60, okb 276 e = true := by decide +kernel
theorem ok_276_540 : ∀ e ∈ (pg276.drop 540).take 60, okb 276 e = true := by decide +kernel
theorem ok_276_600 : ∀ e ∈ (pg276.drop 600).take 60, okb 276 e = true := by decide +kernel
theorem ok_276_660 : ∀ e ∈ (pg276.drop 660).take 60, okb 276 e = true := by decide +kernel
theorem ok_276_720 : ∀ e ∈ (pg276.drop 720).take 60, okb 276 e = true := by decide +kernel
theorem ok_276_780 : ∀ e ∈ (pg276.drop 780).take 60, okb 276 e = true := by decide +kernel
set_option maxRecDepth 100000 in
theorem ok_276 : ∀ e ∈ pg276, okb 276 e = true := by
  intro q hq
  obtain ⟨i, hi⟩ := List.getElem?_of_mem hq
  by_cases h0 : i < 60
  · exact ok_276_0 q (List.mem_of_getElem? (i := i - 0) (by rw [List.getElem?_take, if_pos (by omega), List.getElem?_drop, show 0 + (i - 0) = i by omega]; exact hi))
  by_cases h60 : i < 120
  · exact ok_276_60 q (List.mem_of_getElem? (i := i - 60) (by rw [List.getElem?_take, if_pos (by omega), List.getElem?_drop, show 60 + (i - 60) = i by omega]; exact hi))
  by_cases h120 : i < 180
  · exact ok_276_120 q (List.mem_of_getElem? (i := i - 120) (by rw [List.getElem?_take, if_pos (by omega), List.getElem?_drop, show 120 + (i - 120) = i by omega]; exact hi))
  by_cases h180 : i < 240
  · exact ok_276_180 q (List.mem_of_getElem? (i := i - 180) (by rw [List.getElem?_take, if_pos (by omega), List.getElem?_drop, show 180 + (i - 180) = i by omega]; exact hi))
  by_cases h240 : i < 300
  · exact ok_276_240 q (List.mem_of_getElem? (i := i - 240) (by rw [List.getElem?_take, if_pos (by omega), List.getElem?_drop, show 240 + (i - 240) = i by omega]; exact hi))
  by_cases h300 : i < 360
  · exact ok_276_300 q (List.mem_of_getElem? (i := i - 300) (by rw [List.getElem?_take, if_pos (by omega), List.getElem?_drop, show 300 + (i - 300) = i by omega]; exact hi))
  by_cases h360 : i < 420
  · exact ok_276_360 q (List.mem_of_getElem? (i := i - 360) (by rw [List.getElem?_take, if_pos (by omega), List.getElem?_drop, show 360 + (i - 360) = i by omega]; exact hi))
  by_cases h420 : i < 480
  · exact ok_276_420 q (List.mem_of_getElem? (i := i - 420) (by rw [List.getElem?_take, if_pos (by omega), List.getElem?_drop, show 420 + (i - 420) = i by omega]; exact hi))
  by_cases h480 : i < 540
  · exact ok_276_480 q (List.mem_of_getElem? (i := i - 480) (by rw [List.getElem?_take, if_pos (by omega), List.getElem?_drop, show 480 + (i - 480) = i by omega]; exact hi))
  by_cases h540 : i < 600
  · exact ok_276_540 q (List.mem_of_getElem? (i := i - 540) (by rw [List.getElem?_take, if_pos (by omega), List.getElem?_drop, show 540 + (i - 540) = i by omega]; exact hi))
  by_cases h600 : i < 660
  · exact ok_276_600 q (List.mem_of_getElem? (i := i - 600) (by rw [List.getElem?_take, if_pos (by omega), List.getElem?_drop, show 600 + (i - 600) = i by omega]; exact hi))
  by_cases h660 : i < 720
  · exact ok_276_660 q (List.mem_of_getElem? (i := i - 660) (by rw [List.getElem?_take, if_pos (by omega), List.getElem?_drop, show 660 + (i - 660) = i by omega]; exact hi))
  by_cases h720 : i < 780
  · exact ok_276_720 q (List.mem_of_getElem? (i := i - 720) (by rw [List.getElem?_take, if_pos (by omega), List.getElem?_drop, show 720 + (i - 720) = i by omega]; exact hi))
  by_cases h780 : i < 840
  · exact ok_276_780 q (List.mem_of_getElem? (i := i - 780) (by rw [List.getElem?_take, if_pos (by omega), List.getElem?_drop, show 780 + (i - 780) = i by omega]; exact hi))
  exact absurd (List.getElem?_eq_some_iff.mp hi).1 (by rw [show pg276.length = 795 from rfl]; omega)
theorem okAll (m : Nat) (hm : m < 277) : ∀ e ∈ pgs.getD m [], okb m e = true := by
  match m, hm with
  | 0, _ => exact ok_0
  | 1, _ => exact ok_1
  | 2, _ => exact ok_2
  | 3, _ => exact ok_3
  | 4, _ => exact ok_4
  | 5, _ => exact ok_5
  | 6, _ => exact ok_6
  | 7, _ => exact ok_7
  | 8, _ => exact ok_8
  | 9, _ => exact ok_9
  | 10, _ => exact ok_10
  | 11, _ => exact ok_11
  | 12, _ => exact ok_12
  | 13, _ => exact ok_13
  | 14, _ => exact ok_14
  | 15, _ => exact ok_15
  | 16, _ => exact ok_16
  | 17, _ => exact ok_17
  | 18, _ => exact ok_18
  | 19, _ => exact ok_19
  | 20, _ => exact ok_20
  | 21, _ => exact ok_21
  | 22, _ => exact ok_22
  | 23, _ => exact ok_23
  | 24, _ => exact ok_24
  | 25, _ => exact ok_25
  | 26, _ => exact ok_26
  | 27, _ => exact ok_27
  | 28, _ => exact ok_28
  | 29, _ => exact ok_29
  | 30, _ => exact ok_30
  | 31, _ => exact ok_31
  | 32, _ => exact ok_32
  | 33, _ => exact ok_33
  | 34, _ => exact ok_34
  | 35, _ => exact ok_35
  | 36, _ => exact ok_36
  | 37, _ => exact ok_37
  | 38, _ => exact ok_38
  | 39, _ => exact ok_39
  | 40, _ => exact ok_40
  | 41, _ => exact ok_41
  | 42, _ => exact ok_42
  | 43, _ => exact ok_43
  | 44, _ => exact ok_44
  | 45, _ => exact ok_45
  | 46, _ => exact ok_46
  | 47, _ => exact ok_47
  | 48, _ => exact ok_48
  | 49, _ => exact ok_49
  | 50, _ => exact ok_50
  | 51, _ => exact ok_51
  | 52, _ => exact ok_52
  | 53, _ => exact ok_53
  | 54, _ => exact ok_54
  | 55, _ => exact ok_55
  | 56, _ => exact ok_56
  | 57, _ => exact ok_57
  | 58, _ => exact ok_58
  | 59, _ => exact ok_59
  | 60, _ => exact ok_60
  | 61, _ => exact ok_61
  | 62, _ => exact ok_62
  | 63, _ => exact ok_63
  | 64, _ => exact ok_64
  | 65, _ => exact ok_65
  | 66, _ => exact ok_66
  | 67, _ => exact ok_67
  | 68, _ => exact ok_68
  | 69, _ => exact ok_69
  | 70, _ => exact ok_70
  | 71, _ => exact ok_71
  | 72, _ => exact ok_72
  | 73, _ => exact ok_73
  | 74, _ => exact ok_74
  | 75, _ => exact ok_75
  | 76, _ => exact ok_76
  | 77, _ => exact ok_77
  | 78, _ => exact ok_78
  | 79, _ => exact ok_79
  | 80, _ => exact ok_80
  | 81, _ => exact ok_81
  | 82, _ => exact ok_82
  | 83, _ => exact ok_83
  | 84, _ => exact ok_84
  | 85, _ => exact ok_85
  | 86, _ => exact ok_86
  | 87, _ => exact ok_87
  | 88, _ => exact ok_88
  | 89, _ => exact ok_89
  | 90, _ => exact ok_90
  | 91, _ => exact ok_91
  | 92, _ => exact ok_92
  | 93, _ => exact ok_93
  | 94, _ => exact ok_94
  | 95, _ => exact ok_95
  | 96, _ => exact ok_96
  | 97, _ => exact ok_97
  | 98, _ => exact ok_98
  | 99, _ => exact ok_99
  | 100, _ => exact ok_100
  | 101, _ => exact ok_101
  | 102, _ => exact ok_102
  | 103, _ => exact ok_103
  | 104, _ => exact ok_104
  | 105, _ => exact ok_105
  | 106, _ => exact ok_106
  | 107, _ => exact ok_107
  | 108, _ => exact ok_108
  | 109, _ => exact ok_109
  | 110, _ => exact ok_110
  | 111, _ => exact ok_111
  | 112, _ => exact ok_112
  | 113, _ => exact ok_113
  | 114, _ => exact ok_114
  | 115, _ => exact ok_115
  | 116, _ => exact ok_116
  | 117, _ => exact ok_117
  | 118, _ => exact ok_118
  | 119, _ => exact ok_119
  | 120, _ => exact ok_120
  | 121, _ => exact ok_121
  | 122, _ => exact ok_122
  | 123, _ => exact ok_123
  | 124, _ => exact ok_124
  | 125, _ => exact ok_125
  | 126, _ => exact ok_126
  | 127, _ => exact ok_127
  | 128, _ => exact ok_128
  | 129, _ => exact ok_129
  | 130, _ => exact ok_130
  | 131, _ => exact ok_131
  | 132, _ => exact ok_132
  | 133, _ => exact ok_133
  | 134, _ => exact ok_134
  | 135, _ => exact ok_135
  | 136, _ => exact ok_136
  | 137, _ => exact ok_137
  | 138, _ => exact ok_138
  | 139, _ => exact ok_139
  | 140, _ => exact ok_140
  | 141, _ => exact ok_141
  | 142, _ => exact ok_142
  | 143, _ => exact ok_143
  | 144, _ => exact ok_144
  | 145, _ => exact ok_145
  | 146, _ => exact ok_146
  | 147, _ => exact ok_147
  | 148, _ => exact ok_148
  | 149, _ => exact ok_149
  | 150, _ => exact ok_150
  | 151, _ => exact ok_151
  | 152, _ => exact ok_152
  | 153, _ => exact ok_153
  | 154, _ => exact ok_154
  | 155, _ => exact ok_155
  | 156, _ => exact ok_156
  | 157, _ => exact ok_157
  | 158, _ => exact ok_158
  | 159, _ => exact ok_159
  | 160, _ => exact ok_160
  | 161, _ => exact ok_161
  | 162, _ => exact ok_162
  | 163, _ => exact ok_163
  | 164, _ => exact ok_164
  | 165, _ => exact ok_165
  | 166, _ => exact ok_166
  | 167, _ => exact ok_167
  | 168, _ => exact ok_168
  | 169, _ => exact ok_169
  | 170, _ => exact ok_170
  | 171, _ => exact ok_171
  | 172, _ => exact ok_172
  | 173, _ => exact ok_173
  | 174, _ => exact ok_174
  | 175, _ => exact ok_175
  | 176, _ => exact ok_176
  | 177, _ => exact ok_177
  | 178, _ => exact ok_178
  | 179, _ => exact ok_179
  | 180, _ => exact ok_180
  | 181, _ => exact ok_181
  | 182, _ => exact ok_182
  | 183, _ => exact ok_183
  | 184, _ => exact ok_184
  | 185, _ => exact ok_185
  | 186, _ => exact ok_186
  | 187, _ => exact ok_187
  | 188, _ => exact ok_188
  | 189, _ => exact ok_189
  | 190, _ => exact ok_190
  | 191, _ => exact ok_191
  | 192, _ => exact ok_192
  | 193, _ => exact ok_193
  | 194, _ => exact ok_194
  | 195, _ => exact ok_195
  | 196, _ => exact ok_196
  | 197, _ => exact ok_197
  | 198, _ => exact ok_198
  | 199, _ => exact ok_199
  | 200, _ => exact ok_200
  | 201, _ => exact ok_201
  | 202, _ => exact ok_202
  | 203, _ => exact ok_203
  | 204, _ => exact ok_204
  | 205, _ => exact ok_205
  | 206, _ => exact ok_206
  | 207, _ => exact ok_207
  | 208, _ => exact ok_208
  | 209, _ => exact ok_209
  | 210, _ => exact ok_210
  | 211, _ => exact ok_211
  | 212, _ => exact ok_212
  | 213, _ => exact ok_213
  | 214, _ => exact ok_214
  | 215, _ => exact ok_215
  | 216, _ => exact ok_216
  | 217, _ => exact ok_217
  | 218, _ => exact ok_218
  | 219, _ => exact ok_219
  | 220, _ => exact ok_220
  | 221, _ => exact ok_221
  | 222, _ => exact ok_222
  | 223, _ => exact ok_223
  | 224, _ => exact ok_224
  | 225, _ => exact ok_225
  | 226, _ => exact ok_226
  | 227, _ => exact ok_227
  | 228, _ => exact ok_228
  | 229, _ => exact ok_229
  | 230, _ => exact ok_230
  | 231, _ => exact ok_231
  | 232, _ => exact ok_232
  | 233, _ => exact ok_233
  | 234, _ => exact ok_234
  | 235, _ => exact ok_235
  | 236, _ => exact ok_236
  | 237, _ => exact ok_237
  | 238, _ => exact ok_238
  | 239, _ => exact ok_239
  | 240, _ => exact ok_240
  | 241, _ => exact ok_241
  | 242, _ => exact ok_242
  | 243, _ => exact ok_243
  | 244, _ => exact ok_244
  | 245, _ => exact ok_245
  | 246, _ => exact ok_246
  | 247, _ => exact ok_247
  | 248, _ => exact ok_248
  | 249, _ => exact ok_249
  | 250, _ => exact ok_250
  | 251, _ => exact ok_251
  | 252, _ => exact ok_252
  | 253, _ => exact ok_253
  | 254, _ => exact ok_254
  | 255, _ => exact ok_255
  | 256, _ => exact ok_256
  | 257, _ => exact ok_257
  | 258, _ => exact ok_258
  | 259, _ => exact ok_259
  | 260, _ => exact ok_260
  | 261, _ => exact ok_261
  | 262, _ => exact ok_262
  | 263, _ => exact ok_263
  | 264, _ => exact ok_264
  | 265, _ => exact ok_265
  | 266, _ => exact ok_266
  | 267, _ => exact ok_267
  | 268, _ => exact ok_268
  | 269, _ => exact ok_269
  | 270, _ => exact ok_270
  | 271, _ => exact ok_271
  | 272, _ => exact ok_272
  | 273, _ => exact ok_273
  | 274, _ => exact ok_274
  | 275, _ => exact ok_275
  | 276, _ => exact ok_276
  | m + 277, h => exact absurd h (by omega)
