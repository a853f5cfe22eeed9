theorem k_86_0 : (((mC 86).drop 0).take 30).all (zchk 86) = true := by decide +kernel
theorem k_86_30 : (((mC 86).drop 30).take 30).all (zchk 86) = true := by decide +kernel
theorem k_86_60 : (((mC 86).drop 60).take 30).all (zchk 86) = true := by decide +kernel
theorem k_86_90 : (((mC 86).drop 90).take 30).all (zchk 86) = true := by decide +kernel
theorem k_86 : (mC 86).all (zchk 86) = true := by
  have h : mC 86 = ((mC 86).drop 0).take 30 ++ (((mC 86).drop 30).take 30 ++ (((mC 86).drop 60).take 30 ++ (((mC 86).drop 90).take 30))) := by decide +kernel
  rw [h]
  simp only [List.all_append, k_86_0, k_86_30, k_86_60, k_86_90, Bool.and_self]
theorem k_151_0 : (((mC 151).drop 0).take 30).all (zchk 151) = true := by decide +kernel
theorem k_151_30 : (((mC 151).drop 30).take 30).all (zchk 151) = true := by decide +kernel
theorem k_151_60 : (((mC 151).drop 60).take 30).all (zchk 151) = true := by decide +kernel
theorem k_151_90 : (((mC 151).drop 90).take 30).all (zchk 151) = true := by decide +kernel
theorem k_151_120 : (((mC 151).drop 120).take 30).all (zchk 151) = true := by decide +kernel
theorem k_151_150 : (((mC 151).drop 150).take 30).all (zchk 151) = true := by decide +kernel
theorem k_151 : (mC 151).all (zchk 151) = true := by
  have h : mC 151 = ((mC 151).drop 0).take 30 ++ (((mC 151).drop 30).take 30 ++ (((mC 151).drop 60).take 30 ++ (((mC 151).drop 90).take 30 ++ (((mC 151).drop 120).take 30 ++ (((mC 151).drop 150).take 30))))) := by decide +kernel
  rw [h]
  simp only [List.all_append, k_151_0, k_151_30, k_151_60, k_151_90, k_151_120, k_151_150, Bool.and_self]
theorem k_157_0 : (((mC 157).drop 0).take 30).all (zchk 157) = true := by decide +kernel
theorem k_157_30 : (((mC 157).drop 30).take 30).all (zchk 157) = true := by decide +kernel
theorem k_157_60 : (((mC 157).drop 60).take 30).all (zchk 157) = true := by decide +kernel
theorem k_157_90 : (((mC 157).drop 90).take 30).all (zchk 157) = true := by decide +kernel
theorem k_157 : (mC 157).all (zchk 157) = true := by
  have h : mC 157 = ((mC 157).drop 0).take 30 ++ (((mC 157).drop 30).take 30 ++ (((mC 157).drop 60).take 30 ++ (((mC 157).drop 90).take 30))) := by decide +kernel
  rw [h]
  simp only [List.all_append, k_157_0, k_157_30, k_157_60, k_157_90, Bool.and_self]
theorem k_160_0 : (((mC 160).drop 0).take 30).all (zchk 160) = true := by decide +kernel
theorem k_160_30 : (((mC 160).drop 30).take 30).all (zchk 160) = true := by decide +kernel
theorem k_160_60 : (((mC 160).drop 60).take 30).all (zchk 160) = true := by decide +kernel
theorem k_160_90 : (((mC 160).drop 90).take 30).all (zchk 160) = true := by decide +kernel
theorem k_160 : (mC 160).all (zchk 160) = true := by
  have h : mC 160 = ((mC 160).drop 0).take 30 ++ (((mC 160).drop 30).take 30 ++ (((mC 160).drop 60).take 30 ++ (((mC 160).drop 90).take 30))) := by decide +kernel
  rw [h]
  simp only [List.all_append, k_160_0, k_160_30, k_160_60, k_160_90, Bool.and_self]
theorem k_171_0 : (((mC 171).drop 0).take 30).all (zchk 171) = true := by decide +kernel
theorem k_171_30 : (((mC 171).drop 30).take 30).all (zchk 171) = true := by decide +kernel
theorem k_171_60 : (((mC 171).drop 60).take 30).all (zchk 171) = true := by decide +kernel
theorem k_171_90 : (((mC 171).drop 90).take 30).all (zchk 171) = true := by decide +kernel
theorem k_171_120 : (((mC 171).drop 120).take 30).all (zchk 171) = true := by decide +kernel
theorem k_171_150 : (((mC 171).drop 150).take 30).all (zchk 171) = true := by decide +kernel
theorem k_171 : (mC 171).all (zchk 171) = true := by
  have h : mC 171 = ((mC 171).drop 0).take 30 ++ (((mC 171).drop 30).take 30 ++ (((mC 171).drop 60).take 30 ++ (((mC 171).drop 90).take 30 ++ (((mC 171).drop 120).take 30 ++ (((mC 171).drop 150).take 30))))) := by decide +kernel
  rw [h]
  simp only [List.all_append, k_171_0, k_171_30, k_171_60, k_171_90, k_171_120, k_171_150, Bool.and_self]
theorem k_181_0 : (((mC 181).drop 0).take 30).all (zchk 181) = true := by decide +kernel
theorem k_181_30 : (((mC 181).drop 30).take 30).all (zchk 181) = true := by decide +kernel
theorem k_181_60 : (((mC 181).drop 60).take 30).all (zchk 181) = true := by decide +kernel
theorem k_181_90 : (((mC 181).drop 90).take 30).all (zchk 181) = true := by decide +kernel
theorem k_181 : (mC 181).all (zchk 181) = true := by
  have h : mC 181 = ((mC 181).drop 0).take 30 ++ (((mC 181).drop 30).take 30 ++ (((mC 181).drop 60).take 30 ++ (((mC 181).drop 90).take 30))) := by decide +kernel
  rw [h]
  simp only [List.all_append, k_181_0, k_181_30, k_181_60, k_181_90, Bool.and_self]
theorem k_186_0 : (((mC 186).drop 0).take 30).all (zchk 186) = true := by decide +kernel
theorem k_186_30 : (((mC 186).drop 30).take 30).all (zchk 186) = true := by decide +kernel
theorem k_186_60 : (((mC 186).drop 60).take 30).all (zchk 186) = true := by decide +kernel
theorem k_186_90 : (((mC 186).drop 90).take 30).all (zchk 186) = true := by decide +kernel
theorem k_186 : (mC 186).all (zchk 186) = true := by
  have h : mC 186 = ((mC 186).drop 0).take 30 ++ (((mC 186).drop 30).take 30 ++ (((mC 186).drop 60).take 30 ++ (((mC 186).drop 90).take 30))) := by decide +kernel
  rw [h]
  simp only [List.all_append, k_186_0, k_186_30, k_186_60, k_186_90, Bool.and_self]
theorem k_188_0 : (((mC 188).drop 0).take 30).all (zchk 188) = true := by decide +kernel
theorem k_188_30 : (((mC 188).drop 30).take 30).all (zchk 188) = true := by decide +kernel
theorem k_188_60 : (((mC 188).drop 60).take 30).all (zchk 188) = true := by decide +kernel
theorem k_188_90 : (((mC 188).drop 90).take 30).all (zchk 188) = true := by decide +kernel
theorem k_188_120 : (((mC 188).drop 120).take 30).all (zchk 188) = true := by decide +kernel
theorem k_188_150 : (((mC 188).drop 150).take 30).all (zchk 188) = true := by decide +kernel
theorem k_188 : (mC 188).all (zchk 188) = true := by
  have h : mC 188 = ((mC 188).drop 0).take 30 ++ (((mC 188).drop 30).take 30 ++ (((mC 188).drop 60).take 30 ++ (((mC 188).drop 90).take 30 ++ (((mC 188).drop 120).take 30 ++ (((mC 188).drop 150).take 30))))) := by decide +kernel
  rw [h]
  simp only [List.all_append, k_188_0, k_188_30, k_188_60, k_188_90, k_188_120, k_188_150, Bool.and_self]
theorem k_189_0 : (((mC 189).drop 0).take 30).all (zchk 189) = true := by decide +kernel
theorem k_189_30 : (((mC 189).drop 30).take 30).all (zchk 189) = true := by decide +kernel
theorem k_189_60 : (((mC 189).drop 60).take 30).all (zchk 189) = true := by decide +kernel
theorem k_189_90 : (((mC 189).drop 90).take 30).all (zchk 189) = true := by decide +kernel
theorem k_189 : (mC 189).all (zchk 189) = true := by
  have h : mC 189 = ((mC 189).drop 0).take 30 ++ (((mC 189).drop 30).take 30 ++ (((mC 189).drop 60).take 30 ++ (((mC 189).drop 90).take 30))) := by decide +kernel
  rw [h]
  simp only [List.all_append, k_189_0, k_189_30, k_189_60, k_189_90, Bool.and_self]
theorem k_191_0 : (((mC 191).drop 0).take 30).all (zchk 191) = true := by decide +kernel
theorem k_191_30 : (((mC 191).drop 30).take 30).all (zchk 191) = true := by decide +kernel
theorem k_191_60 : (((mC 191).drop 60).take 30).all (zchk 191) = true := by decide +kernel
theorem k_191_90 : (((mC 191).drop 90).take 30).all (zchk 191) = true := by decide +kernel
theorem k_191_120 : (((mC 191).drop 120).take 30).all (zchk 191) = true := by decide +kernel
theorem k_191 : (mC 191).all (zchk 191) = true := by
  have h : mC 191 = ((mC 191).drop 0).take 30 ++ (((mC 191).drop 30).take 30 ++ (((mC 191).drop 60).take 30 ++ (((mC 191).drop 90).take 30 ++ (((mC 191).drop 120).take 30)))) := by decide +kernel
  rw [h]
  simp only [List.all_append, k_191_0, k_191_30, k_191_60, k_191_90, k_191_120, Bool.and_self]
theorem k_216_0 : (((mC 216).drop 0).take 30).all (zchk 216) = true := by decide +kernel
theorem k_216_30 : (((mC 216).drop 30).take 30).all (zchk 216) = true := by decide +kernel
theorem k_216_60 : (((mC 216).drop 60).take 30).all (zchk 216) = true := by decide +kernel
theorem k_216_90 : (((mC 216).drop 90).take 30).all (zchk 216) = true := by decide +kernel
theorem k_216_120 : (((mC 216).drop 120).take 30).all (zchk 216) = true := by decide +kernel
theorem k_216_150 : (((mC 216).drop 150).take 30).all (zchk 216) = true := by decide +kernel
theorem k_216_180 : (((mC 216).drop 180).take 30).all (zchk 216) = true := by decide +kernel
theorem k_216_210 : (((mC 216).drop 210).take 30).all (zchk 216) = true := by decide +kernel
theorem k_216_240 : (((mC 216).drop 240).take 30).all (zchk 216) = true := by decide +kernel
theorem k_216_270 : (((mC 216).drop 270).take 30).all (zchk 216) = true := by decide +kernel
theorem k_216_300 : (((mC 216).drop 300).take 30).all (zchk 216) = true := by decide +kernel
theorem k_216_330 : (((mC 216).drop 330).take 30).all (zchk 216) = true := by decide +kernel
theorem k_216_360 : (((mC 216).drop 360).take 30).all (zchk 216) = true := by decide +kernel
theorem k_216_390 : (((mC 216).drop 390).take 30).all (zchk 216) = true := by decide +kernel
theorem k_216_420 : (((mC 216).drop 420).take 30).all (zchk 216) = true := by decide +kernel
theorem k_216_450 : (((mC 216).drop 450).take 30).all (zchk 216) = true := by decide +kernel
theorem k_216_480 : (((mC 216).drop 480).take 30).all (zchk 216) = true := by decide +kernel
theorem k_216_510 : (((mC 216).drop 510).take 30).all (zchk 216) = true := by decide +kernel
theorem k_216_540 : (((mC 216).drop 540).take 30).all (zchk 216) = true := by decide +kernel
theorem k_216_570 : (((mC 216).drop 570).take 30).all (zchk 216) = true := by decide +kernel
theorem k_216_600 : (((mC 216).drop 600).take 30).all (zchk 216) = true := by decide +kernel
theorem k_216_630 : (((mC 216).drop 630).take 30).all (zchk 216) = true := by decide +kernel
theorem k_216_660 : (((mC 216).drop 660).take 30).all (zchk 216) = true := by decide +kernel
theorem k_216_690 : (((mC 216).drop 690).take 30).all (zchk 216) = true := by decide +kernel
theorem k_216_720 : (((mC 216).drop 720).take 30).all (zchk 216) = true := by decide +kernel
theorem k_216 : (mC 216).all (zchk 216) = true := by
  have h : mC 216 = ((mC 216).drop 0).take 30 ++ (((mC 216).drop 30).take 30 ++ (((mC 216).drop 60).take 30 ++ (((mC 216).drop 90).take 30 ++ (((mC 216).drop 120).take 30 ++ (((mC 216).drop 150).take 30 ++ (((mC 216).drop 180).take 30 ++ (((mC 216).drop 210).take 30 ++ (((mC 216).drop 240).take 30 ++ (((mC 216).drop 270).take 30 ++ (((mC 216).drop 300).take 30 ++ (((mC 216).drop 330).take 30 ++ (((mC 216).drop 360).take 30 ++ (((mC 216).drop 390).take 30 ++ (((mC 216).drop 420).take 30 ++ (((mC 216).drop 450).take 30 ++ (((mC 216).drop 480).take 30 ++ (((mC 216).drop 510).take 30 ++ (((mC 216).drop 540).take 30 ++ (((mC 216).drop 570).take 30 ++ (((mC 216).drop 600).take 30 ++ (((mC 216).drop 630).take 30 ++ (((mC 216).drop 660).take 30 ++ (((mC 216).drop 690).take 30 ++ (((mC 216).drop 720).take 30)))))))))))))))))))))))) := by decide +kernel
  rw [h]
  simp only [List.all_append, k_216_0, k_216_30, k_216_60, k_216_90, k_216_120, k_216_150, k_216_180, k_216_210, k_216_240, k_216_270, k_216_300, k_216_330, k_216_360, k_216_390, k_216_420, k_216_450, k_216_480, k_216_510, k_216_540, k_216_570, k_216_600, k_216_630, k_216_660, k_216_690, k_216_720, Bool.and_self]
theorem zchk_all : ∀ mi, mi < 217 → (mC mi).all (zchk mi) = true
  | 0, _ => k_0
  | 1, _ => k_1
  | 2, _ => k_2
  | 3, _ => k_3
  | 4, _ => k_4
  | 5, _ => k_5
  | 6, _ => k_6
  | 7, _ => k_7
  | 8, _ => k_8
  | 9, _ => k_9
  | 10, _ => k_10
  | 11, _ => k_11
  | 12, _ => k_12
  | 13, _ => k_13
  | 14, _ => k_14
  | 15, _ => k_15
  | 16, _ => k_16
  | 17, _ => k_17
  | 18, _ => k_18
  | 19, _ => k_19
  | 20, _ => k_20
  | 21, _ => k_21
  | 22, _ => k_22
  | 23, _ => k_23
  | 24, _ => k_24
  | 25, _ => k_25
  | 26, _ => k_26
  | 27, _ => k_27
  | 28, _ => k_28
  | 29, _ => k_29
  | 30, _ => k_30
  | 31, _ => k_31
  | 32, _ => k_32
  | 33, _ => k_33
  | 34, _ => k_34
  | 35, _ => k_35
  | 36, _ => k_36
  | 37, _ => k_37
  | 38, _ => k_38
  | 39, _ => k_39
  | 40, _ => k_40
  | 41, _ => k_41
  | 42, _ => k_42
  | 43, _ => k_43
  | 44, _ => k_44
  | 45, _ => k_45
  | 46, _ => k_46
  | 47, _ => k_47
  | 48, _ => k_48
  | 49, _ => k_49
  | 50, _ => k_50
  | 51, _ => k_51
  | 52, _ => k_52
  | 53, _ => k_53
  | 54, _ => k_54
  | 55, _ => k_55
  | 56, _ => k_56
  | 57, _ => k_57
  | 58, _ => k_58
  | 59, _ => k_59
  | 60, _ => k_60
  | 61, _ => k_61
  | 62, _ => k_62
  | 63, _ => k_63
  | 64, _ => k_64
  | 65, _ => k_65
  | 66, _ => k_66
  | 67, _ => k_67
  | 68, _ => k_68
  | 69, _ => k_69
  | 70, _ => k_70
  | 71, _ => k_71
  | 72, _ => k_72
  | 73, _ => k_73
  | 74, _ => k_74
  | 75, _ => k_75
  | 76, _ => k_76
  | 77, _ => k_77
  | 78, _ => k_78
  | 79, _ => k_79
  | 80, _ => k_80
  | 81, _ => k_81
  | 82, _ => k_82
  | 83, _ => k_83
  | 84, _ => k_84
  | 85, _ => k_85
  | 86, _ => k_86
  | 87, _ => k_87
  | 88, _ => k_88
  | 89, _ => k_89
  | 90, _ => k_90
  | 91, _ => k_91
  | 92, _ => k_92
  | 93, _ => k_93
  | 94, _ => k_94
  | 95, _ => k_95
  | 96, _ => k_96
  | 97, _ => k_97
  | 98, _ => k_98
  | 99, _ => k_99
  | 100, _ => k_100
  | 101, _ => k_101
  | 102, _ => k_102
  | 103, _ => k_103
  | 104, _ => k_104
  | 105, _ => k_105
  | 106, _ => k_106
  | 107, _ => k_107
  | 108, _ => k_108
  | 109, _ => k_109
  | 110, _ => k_110
  | 111, _ => k_111
  | 112, _ => k_112
  | 113, _ => k_113
  | 114, _ => k_114
  | 115, _ => k_115
  | 116, _ => k_116
  | 117, _ => k_117
  | 118, _ => k_118
  | 119, _ => k_119
  | 120, _ => k_120
  | 121, _ => k_121
  | 122, _ => k_122
  | 123, _ => k_123
  | 124, _ => k_124
  | 125, _ => k_125
  | 126, _ => k_126
  | 127, _ => k_127
  | 128, _ => k_128
  | 129, _ => k_129
  | 130, _ => k_130
  | 131, _ => k_131
  | 132, _ => k_132
  | 133, _ => k_133
  | 134, _ => k_134
  | 135, _ => k_135
  | 136, _ => k_136
  | 137, _ => k_137
  | 138, _ => k_138
  | 139, _ => k_139
  | 140, _ => k_140
  | 141, _ => k_141
  | 142, _ => k_142
  | 143, _ => k_143
  | 144, _ => k_144
  | 145, _ => k_145
  | 146, _ => k_146
  | 147, _ => k_147
  | 148, _ => k_148
  | 149, _ => k_149
  | 150, _ => k_150
  | 151, _ => k_151
  | 152, _ => k_152
  | 153, _ => k_153
  | 154, _ => k_154
  | 155, _ => k_155
  | 156, _ => k_156
  | 157, _ => k_157
  | 158, _ => k_158
  | 159, _ => k_159
  | 160, _ => k_160
  | 161, _ => k_161
  | 162, _ => k_162
  | 163, _ => k_163
  | 164, _ => k_164
  | 165, _ => k_165
  | 166, _ => k_166
  | 167, _ => k_167
  | 168, _ => k_168
  | 169, _ => k_169
  | 170, _ => k_170
  | 171, _ => k_171
  | 172, _ => k_172
  | 173, _ => k_173
  | 174, _ => k_174
  | 175, _ => k_175
  | 176, _ => k_176
  | 177, _ => k_177
  | 178, _ => k_178
  | 179, _ => k_179
  | 180, _ => k_180
  | 181, _ => k_181
  | 182, _ => k_182
  | 183, _ => k_183
  | 184, _ => k_184
  | 185, _ => k_185
  | 186, _ => k_186
  | 187, _ => k_187
  | 188, _ => k_188
  | 189, _ => k_189
  | 190, _ => k_190
  | 191, _ => k_191
  | 192, _ => k_192
  | 193, _ => k_193
  | 194, _ => k_194
  | 195, _ => k_195
  | 196, _ => k_196
  | 197, _ => k_197
  | 198, _ => k_198
  | 199, _ => k_199
  | 200, _ => k_200
  | 201, _ => k_201
  | 202, _ => k_202
  | 203, _ => k_203
  | 204, _ => k_204
  | 205, _ => k_205
  | 206, _ => k_206
  | 207, _ => k_207
  | 208, _ => k_208
  | 209, _ => k_209
  | 210, _ => k_210
  | 211, _ => k_211
  | 212, _ => k_212
  | 213, _ => k_213
  | 214, _ => k_214
  | 215, _ => k_215
  | 216, _ => k_216
  | n + 217, h => absurd h (by omega)
