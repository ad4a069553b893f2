/-! ===== the methods' words ===== -/
set_option maxRecDepth 100000 in
theorem mc_0 : ab_hasC 0 := rfl
set_option maxRecDepth 100000 in
theorem mc_1 : ab_hasC 1 := rfl
set_option maxRecDepth 100000 in
theorem mc_2 : ab_hasC 2 := rfl
set_option maxRecDepth 100000 in
theorem mc_3 : ab_hasC 3 := rfl
set_option maxRecDepth 100000 in
theorem mc_4 : ab_hasC 4 := rfl
set_option maxRecDepth 100000 in
theorem mc_5 : ab_hasC 5 := rfl
set_option maxRecDepth 100000 in
theorem mc_6 : ab_hasC 6 := rfl
set_option maxRecDepth 100000 in
theorem mc_7 : ab_hasC 7 := rfl
set_option maxRecDepth 100000 in
theorem mc_8 : ab_hasC 8 := rfl
set_option maxRecDepth 100000 in
theorem mc_9 : ab_hasC 9 := rfl
set_option maxRecDepth 100000 in
theorem mc_10 : ab_hasC 10 := rfl
set_option maxRecDepth 100000 in
theorem mc_11 : ab_hasC 11 := rfl
set_option maxRecDepth 100000 in
theorem mc_12 : ab_hasC 12 := rfl
set_option maxRecDepth 100000 in
theorem mc_13 : ab_hasC 13 := rfl
set_option maxRecDepth 100000 in
theorem mc_14 : ab_hasC 14 := rfl
set_option maxRecDepth 100000 in
theorem mc_15 : ab_hasC 15 := rfl
set_option maxRecDepth 100000 in
theorem mc_16 : ab_hasC 16 := rfl
set_option maxRecDepth 100000 in
theorem mc_17 : ab_hasC 17 := rfl
set_option maxRecDepth 100000 in
theorem mc_18 : ab_hasC 18 := rfl
set_option maxRecDepth 100000 in
theorem mc_19 : ab_hasC 19 := rfl
set_option maxRecDepth 100000 in
theorem mc_20 : ab_hasC 20 := rfl
set_option maxRecDepth 100000 in
theorem mc_21 : ab_hasC 21 := rfl
set_option maxRecDepth 100000 in
theorem mc_22 : ab_hasC 22 := rfl
set_option maxRecDepth 100000 in
theorem mc_23 : ab_hasC 23 := rfl
set_option maxRecDepth 100000 in
theorem mc_24 : ab_hasC 24 := rfl
set_option maxRecDepth 100000 in
theorem mc_25 : ab_hasC 25 := rfl
set_option maxRecDepth 100000 in
theorem mc_26 : ab_hasC 26 := rfl
set_option maxRecDepth 100000 in
theorem mc_27 : ab_hasC 27 := rfl
set_option maxRecDepth 100000 in
theorem mc_28 : ab_hasC 28 := rfl
set_option maxRecDepth 100000 in
theorem mc_29 : ab_hasC 29 := rfl
set_option maxRecDepth 100000 in
theorem mc_30 : ab_hasC 30 := rfl
set_option maxRecDepth 100000 in
theorem mc_31 : ab_hasC 31 := rfl
set_option maxRecDepth 100000 in
theorem mc_32 : ab_hasC 32 := rfl
set_option maxRecDepth 100000 in
theorem mc_33 : ab_hasC 33 := rfl
set_option maxRecDepth 100000 in
theorem mc_34 : ab_hasC 34 := rfl
set_option maxRecDepth 100000 in
theorem mc_35 : ab_hasC 35 := rfl
set_option maxRecDepth 100000 in
theorem mc_36 : ab_hasC 36 := rfl
set_option maxRecDepth 100000 in
theorem mc_37 : ab_hasC 37 := rfl
set_option maxRecDepth 100000 in
theorem mc_38 : ab_hasC 38 := rfl
set_option maxRecDepth 100000 in
theorem mc_39 : ab_hasC 39 := rfl
set_option maxRecDepth 100000 in
theorem mc_40 : ab_hasC 40 := rfl
set_option maxRecDepth 100000 in
theorem mc_41 : ab_hasC 41 := rfl
set_option maxRecDepth 100000 in
theorem mc_42 : ab_hasC 42 := rfl
set_option maxRecDepth 100000 in
theorem mc_43 : ab_hasC 43 := rfl
set_option maxRecDepth 100000 in
theorem mc_44 : ab_hasC 44 := rfl
set_option maxRecDepth 100000 in
theorem mc_45 : ab_hasC 45 := rfl
set_option maxRecDepth 100000 in
theorem mc_46 : ab_hasC 46 := rfl
set_option maxRecDepth 100000 in
theorem mc_47 : ab_hasC 47 := rfl
set_option maxRecDepth 100000 in
theorem mc_48 : ab_hasC 48 := rfl
set_option maxRecDepth 100000 in
theorem mc_49 : ab_hasC 49 := rfl
set_option maxRecDepth 100000 in
theorem mc_50 : ab_hasC 50 := rfl
set_option maxRecDepth 100000 in
theorem mc_51 : ab_hasC 51 := rfl
set_option maxRecDepth 100000 in
theorem mc_52 : ab_hasC 52 := rfl
set_option maxRecDepth 100000 in
theorem mc_53 : ab_hasC 53 := rfl
set_option maxRecDepth 100000 in
theorem mc_54 : ab_hasC 54 := rfl
set_option maxRecDepth 100000 in
theorem mc_55 : ab_hasC 55 := rfl
set_option maxRecDepth 100000 in
theorem mc_56 : ab_hasC 56 := rfl
set_option maxRecDepth 100000 in
theorem mc_57 : ab_hasC 57 := rfl
set_option maxRecDepth 100000 in
theorem mc_58 : ab_hasC 58 := rfl
set_option maxRecDepth 100000 in
theorem mc_59 : ab_hasC 59 := rfl
set_option maxRecDepth 100000 in
theorem mc_60 : ab_hasC 60 := rfl
set_option maxRecDepth 100000 in
theorem mc_61 : ab_hasC 61 := rfl
set_option maxRecDepth 100000 in
theorem mc_62 : ab_hasC 62 := rfl
set_option maxRecDepth 100000 in
theorem mc_63 : ab_hasC 63 := rfl
set_option maxRecDepth 100000 in
theorem mc_64 : ab_hasC 64 := rfl
set_option maxRecDepth 100000 in
theorem mc_65 : ab_hasC 65 := rfl
set_option maxRecDepth 100000 in
theorem mc_66 : ab_hasC 66 := rfl
set_option maxRecDepth 100000 in
theorem mc_67 : ab_hasC 67 := rfl
set_option maxRecDepth 100000 in
theorem mc_68 : ab_hasC 68 := rfl
set_option maxRecDepth 100000 in
theorem mc_69 : ab_hasC 69 := rfl
set_option maxRecDepth 100000 in
theorem mc_70 : ab_hasC 70 := rfl
set_option maxRecDepth 100000 in
theorem mc_71 : ab_hasC 71 := rfl
set_option maxRecDepth 100000 in
theorem mc_72 : ab_hasC 72 := rfl
set_option maxRecDepth 100000 in
theorem mc_73 : ab_hasC 73 := rfl
set_option maxRecDepth 100000 in
theorem mc_74 : ab_hasC 74 := rfl
set_option maxRecDepth 100000 in
theorem mc_75 : ab_hasC 75 := rfl
set_option maxRecDepth 100000 in
theorem mc_76 : ab_hasC 76 := rfl
set_option maxRecDepth 100000 in
theorem mc_77 : ab_hasC 77 := rfl
set_option maxRecDepth 100000 in
theorem mc_78 : ab_hasC 78 := rfl
set_option maxRecDepth 100000 in
theorem mc_79 : ab_hasC 79 := rfl
set_option maxRecDepth 100000 in
theorem mc_80 : ab_hasC 80 := rfl
set_option maxRecDepth 100000 in
theorem mc_81 : ab_hasC 81 := rfl
set_option maxRecDepth 100000 in
theorem mc_82 : ab_hasC 82 := rfl
set_option maxRecDepth 100000 in
theorem mc_83 : ab_hasC 83 := rfl
set_option maxRecDepth 100000 in
theorem mc_84 : ab_hasC 84 := rfl
set_option maxRecDepth 100000 in
theorem mc_85 : ab_hasC 85 := rfl
set_option maxRecDepth 100000 in
theorem mc_86 : ab_hasC 86 := rfl
set_option maxRecDepth 100000 in
theorem mc_87 : ab_hasC 87 := rfl
set_option maxRecDepth 100000 in
theorem mc_88 : ab_hasC 88 := rfl
set_option maxRecDepth 100000 in
theorem mc_89 : ab_hasC 89 := rfl
set_option maxRecDepth 100000 in
theorem mc_90 : ab_hasC 90 := rfl
set_option maxRecDepth 100000 in
theorem mc_91 : ab_hasC 91 := rfl
set_option maxRecDepth 100000 in
theorem mc_92 : ab_hasC 92 := rfl
set_option maxRecDepth 100000 in
theorem mc_93 : ab_hasC 93 := rfl
set_option maxRecDepth 100000 in
theorem mc_94 : ab_hasC 94 := rfl
set_option maxRecDepth 100000 in
theorem mc_95 : ab_hasC 95 := rfl
set_option maxRecDepth 100000 in
theorem mc_96 : ab_hasC 96 := rfl
set_option maxRecDepth 100000 in
theorem mc_97 : ab_hasC 97 := rfl
set_option maxRecDepth 100000 in
theorem mc_98 : ab_hasC 98 := rfl
set_option maxRecDepth 100000 in
theorem mc_99 : ab_hasC 99 := rfl
set_option maxRecDepth 100000 in
theorem mc_100 : ab_hasC 100 := rfl
set_option maxRecDepth 100000 in
theorem mc_101 : ab_hasC 101 := rfl
set_option maxRecDepth 100000 in
theorem mc_102 : ab_hasC 102 := rfl
set_option maxRecDepth 100000 in
theorem mc_103 : ab_hasC 103 := rfl
set_option maxRecDepth 100000 in
theorem mc_104 : ab_hasC 104 := rfl
set_option maxRecDepth 100000 in
theorem mc_105 : ab_hasC 105 := rfl
set_option maxRecDepth 100000 in
theorem mc_106 : ab_hasC 106 := rfl
set_option maxRecDepth 100000 in
theorem mc_107 : ab_hasC 107 := rfl
set_option maxRecDepth 100000 in
theorem mc_108 : ab_hasC 108 := rfl
set_option maxRecDepth 100000 in
theorem mc_109 : ab_hasC 109 := rfl
set_option maxRecDepth 100000 in
theorem mc_110 : ab_hasC 110 := rfl
set_option maxRecDepth 100000 in
theorem mc_111 : ab_hasC 111 := rfl
set_option maxRecDepth 100000 in
theorem mc_112 : ab_hasC 112 := rfl
set_option maxRecDepth 100000 in
theorem mc_113 : ab_hasC 113 := rfl
set_option maxRecDepth 100000 in
theorem mc_114 : ab_hasC 114 := rfl
set_option maxRecDepth 100000 in
theorem mc_115 : ab_hasC 115 := rfl
set_option maxRecDepth 100000 in
theorem mc_116 : ab_hasC 116 := rfl
set_option maxRecDepth 100000 in
theorem mc_117 : ab_hasC 117 := rfl
set_option maxRecDepth 100000 in
theorem mc_118 : ab_hasC 118 := rfl
set_option maxRecDepth 100000 in
theorem mc_119 : ab_hasC 119 := rfl
set_option maxRecDepth 100000 in
theorem mc_120 : ab_hasC 120 := rfl
set_option maxRecDepth 100000 in
theorem mc_121 : ab_hasC 121 := rfl
set_option maxRecDepth 100000 in
theorem mc_122 : ab_hasC 122 := rfl
set_option maxRecDepth 100000 in
theorem mc_123 : ab_hasC 123 := rfl
set_option maxRecDepth 100000 in
theorem mc_124 : ab_hasC 124 := rfl
set_option maxRecDepth 100000 in
theorem mc_125 : ab_hasC 125 := rfl
set_option maxRecDepth 100000 in
theorem mc_126 : ab_hasC 126 := rfl
set_option maxRecDepth 100000 in
theorem mc_127 : ab_hasC 127 := rfl
set_option maxRecDepth 100000 in
theorem mc_128 : ab_hasC 128 := rfl
set_option maxRecDepth 100000 in
theorem mc_129 : ab_hasC 129 := rfl
set_option maxRecDepth 100000 in
theorem mc_130 : ab_hasC 130 := rfl
set_option maxRecDepth 100000 in
theorem mc_131 : ab_hasC 131 := rfl
set_option maxRecDepth 100000 in
theorem mc_132 : ab_hasC 132 := rfl
set_option maxRecDepth 100000 in
theorem mc_133 : ab_hasC 133 := rfl
set_option maxRecDepth 100000 in
theorem mc_134 : ab_hasC 134 := rfl
set_option maxRecDepth 100000 in
theorem mc_135 : ab_hasC 135 := rfl
set_option maxRecDepth 100000 in
theorem mc_136 : ab_hasC 136 := rfl
set_option maxRecDepth 100000 in
theorem mc_137 : ab_hasC 137 := rfl
set_option maxRecDepth 100000 in
theorem mc_138 : ab_hasC 138 := rfl
set_option maxRecDepth 100000 in
theorem mc_139 : ab_hasC 139 := rfl
set_option maxRecDepth 100000 in
theorem mc_140 : ab_hasC 140 := rfl
set_option maxRecDepth 100000 in
theorem mc_141 : ab_hasC 141 := rfl
set_option maxRecDepth 100000 in
theorem mc_142 : ab_hasC 142 := rfl
set_option maxRecDepth 100000 in
theorem mc_143 : ab_hasC 143 := rfl
set_option maxRecDepth 100000 in
theorem mc_144 : ab_hasC 144 := rfl
set_option maxRecDepth 100000 in
theorem mc_145 : ab_hasC 145 := rfl
set_option maxRecDepth 100000 in
theorem mc_146 : ab_hasC 146 := rfl
set_option maxRecDepth 100000 in
theorem mc_147 : ab_hasC 147 := rfl
set_option maxRecDepth 100000 in
theorem mc_148 : ab_hasC 148 := rfl
set_option maxRecDepth 100000 in
theorem mc_149 : ab_hasC 149 := rfl
set_option maxRecDepth 100000 in
theorem mc_150 : ab_hasC 150 := rfl
set_option maxRecDepth 100000 in
theorem mc_151 : ab_hasC 151 := rfl
set_option maxRecDepth 100000 in
theorem mc_152 : ab_hasC 152 := rfl
set_option maxRecDepth 100000 in
theorem mc_153 : ab_hasC 153 := rfl
set_option maxRecDepth 100000 in
theorem mc_154 : ab_hasC 154 := rfl
set_option maxRecDepth 100000 in
theorem mc_155 : ab_hasC 155 := rfl
set_option maxRecDepth 100000 in
theorem mc_156 : ab_hasC 156 := rfl
set_option maxRecDepth 100000 in
theorem mc_157 : ab_hasC 157 := rfl
set_option maxRecDepth 100000 in
theorem mc_158 : ab_hasC 158 := rfl
set_option maxRecDepth 100000 in
theorem mc_159 : ab_hasC 159 := rfl
set_option maxRecDepth 100000 in
theorem mc_160 : ab_hasC 160 := rfl
set_option maxRecDepth 100000 in
theorem mc_161 : ab_hasC 161 := rfl
set_option maxRecDepth 100000 in
theorem mc_162 : ab_hasC 162 := rfl
set_option maxRecDepth 100000 in
theorem mc_163 : ab_hasC 163 := rfl
set_option maxRecDepth 100000 in
theorem mc_164 : ab_hasC 164 := rfl
set_option maxRecDepth 100000 in
theorem mc_165 : ab_hasC 165 := rfl
set_option maxRecDepth 100000 in
theorem mc_166 : ab_hasC 166 := rfl
set_option maxRecDepth 100000 in
theorem mc_167 : ab_hasC 167 := rfl
set_option maxRecDepth 100000 in
theorem mc_168 : ab_hasC 168 := rfl
set_option maxRecDepth 100000 in
theorem mc_169 : ab_hasC 169 := rfl
set_option maxRecDepth 100000 in
theorem mc_170 : ab_hasC 170 := rfl
set_option maxRecDepth 100000 in
theorem mc_171 : ab_hasC 171 := rfl
set_option maxRecDepth 100000 in
theorem mc_172 : ab_hasC 172 := rfl
set_option maxRecDepth 100000 in
theorem mc_173 : ab_hasC 173 := rfl
set_option maxRecDepth 100000 in
theorem mc_174 : ab_hasC 174 := rfl
set_option maxRecDepth 100000 in
theorem mc_175 : ab_hasC 175 := rfl
set_option maxRecDepth 100000 in
theorem mc_176 : ab_hasC 176 := rfl
set_option maxRecDepth 100000 in
theorem mc_177 : ab_hasC 177 := rfl
set_option maxRecDepth 100000 in
theorem mc_178 : ab_hasC 178 := rfl
set_option maxRecDepth 100000 in
theorem mc_179 : ab_hasC 179 := rfl
set_option maxRecDepth 100000 in
theorem mc_180 : ab_hasC 180 := rfl
set_option maxRecDepth 100000 in
theorem mc_181 : ab_hasC 181 := rfl
set_option maxRecDepth 100000 in
theorem mc_182 : ab_hasC 182 := rfl
set_option maxRecDepth 100000 in
theorem mc_183 : ab_hasC 183 := rfl
set_option maxRecDepth 100000 in
theorem mc_184 : ab_hasC 184 := rfl
set_option maxRecDepth 100000 in
theorem mc_185 : ab_hasC 185 := rfl
set_option maxRecDepth 100000 in
theorem mc_186 : ab_hasC 186 := rfl
set_option maxRecDepth 100000 in
theorem mc_187 : ab_hasC 187 := rfl
set_option maxRecDepth 100000 in
theorem mc_188 : ab_hasC 188 := rfl
set_option maxRecDepth 100000 in
theorem mc_189 : ab_hasC 189 := rfl
set_option maxRecDepth 100000 in
theorem mc_190 : ab_hasC 190 := rfl
set_option maxRecDepth 100000 in
theorem mc_191 : ab_hasC 191 := rfl
set_option maxRecDepth 100000 in
theorem mc_192 : ab_hasC 192 := rfl
set_option maxRecDepth 100000 in
theorem mc_193 : ab_hasC 193 := rfl
set_option maxRecDepth 100000 in
theorem mc_194 : ab_hasC 194 := rfl
set_option maxRecDepth 100000 in
theorem mc_195 : ab_hasC 195 := rfl
set_option maxRecDepth 100000 in
theorem mc_196 : ab_hasC 196 := rfl
set_option maxRecDepth 100000 in
theorem mc_197 : ab_hasC 197 := rfl
set_option maxRecDepth 100000 in
theorem mc_198 : ab_hasC 198 := rfl
set_option maxRecDepth 100000 in
theorem mc_199 : ab_hasC 199 := rfl
set_option maxRecDepth 100000 in
theorem mc_200 : ab_hasC 200 := rfl
set_option maxRecDepth 100000 in
theorem mc_201 : ab_hasC 201 := rfl
set_option maxRecDepth 100000 in
theorem mc_202 : ab_hasC 202 := rfl
set_option maxRecDepth 100000 in
theorem mc_203 : ab_hasC 203 := rfl
set_option maxRecDepth 100000 in
theorem mc_204 : ab_hasC 204 := rfl
set_option maxRecDepth 100000 in
theorem mc_205 : ab_hasC 205 := rfl
set_option maxRecDepth 100000 in
theorem mc_206 : ab_hasC 206 := rfl
set_option maxRecDepth 100000 in
theorem mc_207 : ab_hasC 207 := rfl
set_option maxRecDepth 100000 in
theorem mc_208 : ab_hasC 208 := rfl
set_option maxRecDepth 100000 in
theorem mc_209 : ab_hasC 209 := rfl
set_option maxRecDepth 100000 in
theorem mc_210 : ab_hasC 210 := rfl
set_option maxRecDepth 100000 in
theorem mc_211 : ab_hasC 211 := rfl
set_option maxRecDepth 100000 in
theorem mc_212 : ab_hasC 212 := rfl
set_option maxRecDepth 100000 in
theorem mc_213 : ab_hasC 213 := rfl
set_option maxRecDepth 100000 in
theorem mc_214 : ab_hasC 214 := rfl
set_option maxRecDepth 100000 in
theorem mc_215 : ab_hasC 215 := rfl
set_option maxRecDepth 100000 in
theorem mc_216 : ab_hasC 216 := rfl
set_option maxRecDepth 100000 in
theorem mc_217 : ab_hasC 217 := rfl
set_option maxRecDepth 100000 in
theorem mc_218 : ab_hasC 218 := rfl
set_option maxRecDepth 100000 in
theorem mc_219 : ab_hasC 219 := rfl
set_option maxRecDepth 100000 in
theorem mc_220 : ab_hasC 220 := rfl
set_option maxRecDepth 100000 in
theorem mc_221 : ab_hasC 221 := rfl
set_option maxRecDepth 100000 in
theorem mc_222 : ab_hasC 222 := rfl
set_option maxRecDepth 100000 in
theorem mc_223 : ab_hasC 223 := rfl
set_option maxRecDepth 100000 in
theorem mc_224 : ab_hasC 224 := rfl
set_option maxRecDepth 100000 in
theorem mc_225 : ab_hasC 225 := rfl
set_option maxRecDepth 100000 in
theorem mc_226 : ab_hasC 226 := rfl
set_option maxRecDepth 100000 in
theorem mc_227 : ab_hasC 227 := rfl
set_option maxRecDepth 100000 in
theorem mc_228 : ab_hasC 228 := rfl
set_option maxRecDepth 100000 in
theorem mc_229 : ab_hasC 229 := rfl
set_option maxRecDepth 100000 in
theorem mc_230 : ab_hasC 230 := rfl
set_option maxRecDepth 100000 in
theorem mc_231 : ab_hasC 231 := rfl
set_option maxRecDepth 100000 in
theorem mc_232 : ab_hasC 232 := rfl
set_option maxRecDepth 100000 in
theorem mc_233 : ab_hasC 233 := rfl
set_option maxRecDepth 100000 in
theorem mc_234 : ab_hasC 234 := rfl
set_option maxRecDepth 100000 in
theorem mc_235 : ab_hasC 235 := rfl
set_option maxRecDepth 100000 in
theorem mc_236 : ab_hasC 236 := rfl
set_option maxRecDepth 100000 in
theorem mc_237 : ab_hasC 237 := rfl
set_option maxRecDepth 100000 in
theorem mc_238 : ab_hasC 238 := rfl
set_option maxRecDepth 100000 in
theorem mc_239 : ab_hasC 239 := rfl
set_option maxRecDepth 100000 in
theorem mc_240 : ab_hasC 240 := rfl
set_option maxRecDepth 100000 in
theorem mc_241 : ab_hasC 241 := rfl
set_option maxRecDepth 100000 in
theorem mc_242 : ab_hasC 242 := rfl
set_option maxRecDepth 100000 in
theorem mc_243 : ab_hasC 243 := rfl
set_option maxRecDepth 100000 in
theorem mc_244 : ab_hasC 244 := rfl
set_option maxRecDepth 100000 in
theorem mc_245 : ab_hasC 245 := rfl
set_option maxRecDepth 100000 in
theorem mc_246 : ab_hasC 246 := rfl
set_option maxRecDepth 100000 in
theorem mc_247 : ab_hasC 247 := rfl
set_option maxRecDepth 100000 in
theorem mc_248 : ab_hasC 248 := rfl
set_option maxRecDepth 100000 in
theorem mc_249 : ab_hasC 249 := rfl
set_option maxRecDepth 100000 in
theorem mc_250 : ab_hasC 250 := rfl
set_option maxRecDepth 100000 in
theorem mc_251 : ab_hasC 251 := rfl
set_option maxRecDepth 100000 in
theorem mc_252 : ab_hasC 252 := rfl
set_option maxRecDepth 100000 in
theorem mc_253 : ab_hasC 253 := rfl
set_option maxRecDepth 100000 in
theorem mc_254 : ab_hasC 254 := rfl
set_option maxRecDepth 100000 in
theorem mc_255 : ab_hasC 255 := rfl
set_option maxRecDepth 100000 in
theorem mc_256 : ab_hasC 256 := rfl
set_option maxRecDepth 100000 in
theorem mc_257 : ab_hasC 257 := rfl
set_option maxRecDepth 100000 in
theorem mc_258 : ab_hasC 258 := rfl
theorem ab_hasCs (N : Nat) (h : N < 259) : ab_hasC N := by
  by_cases h0 : N < 16
  · have hz : N = 0 ∨ N = 1 ∨ N = 2 ∨ N = 3 ∨ N = 4 ∨ N = 5 ∨ N = 6 ∨ N = 7 ∨ N = 8 ∨ N = 9 ∨ N = 10 ∨ N = 11 ∨ N = 12 ∨ N = 13 ∨ N = 14 ∨ N = 15 := by omega
    rcases hz with rfl | rfl | rfl | rfl | rfl | rfl | rfl | rfl | rfl | rfl | rfl | rfl | rfl | rfl | rfl | rfl
    · exact mc_0
    · exact mc_1
    · exact mc_2
    · exact mc_3
    · exact mc_4
    · exact mc_5
    · exact mc_6
    · exact mc_7
    · exact mc_8
    · exact mc_9
    · exact mc_10
    · exact mc_11
    · exact mc_12
    · exact mc_13
    · exact mc_14
    · exact mc_15
  by_cases h16 : N < 32
  · have hz : N = 16 ∨ N = 17 ∨ N = 18 ∨ N = 19 ∨ N = 20 ∨ N = 21 ∨ N = 22 ∨ N = 23 ∨ N = 24 ∨ N = 25 ∨ N = 26 ∨ N = 27 ∨ N = 28 ∨ N = 29 ∨ N = 30 ∨ N = 31 := by omega
    rcases hz with rfl | rfl | rfl | rfl | rfl | rfl | rfl | rfl | rfl | rfl | rfl | rfl | rfl | rfl | rfl | rfl
    · exact mc_16
    · exact mc_17
    · exact mc_18
    · exact mc_19
    · exact mc_20
    · exact mc_21
    · exact mc_22
    · exact mc_23
    · exact mc_24
    · exact mc_25
    · exact mc_26
    · exact mc_27
    · exact mc_28
    · exact mc_29
    · exact mc_30
    · exact mc_31
  by_cases h32 : N < 48
  · have hz : N = 32 ∨ N = 33 ∨ N = 34 ∨ N = 35 ∨ N = 36 ∨ N = 37 ∨ N = 38 ∨ N = 39 ∨ N = 40 ∨ N = 41 ∨ N = 42 ∨ N = 43 ∨ N = 44 ∨ N = 45 ∨ N = 46 ∨ N = 47 := by omega
    rcases hz with rfl | rfl | rfl | rfl | rfl | rfl | rfl | rfl | rfl | rfl | rfl | rfl | rfl | rfl | rfl | rfl
    · exact mc_32
    · exact mc_33
    · exact mc_34
    · exact mc_35
    · exact mc_36
    · exact mc_37
    · exact mc_38
    · exact mc_39
    · exact mc_40
    · exact mc_41
    · exact mc_42
    · exact mc_43
    · exact mc_44
    · exact mc_45
    · exact mc_46
    · exact mc_47
  by_cases h48 : N < 64
  · have hz : N = 48 ∨ N = 49 ∨ N = 50 ∨ N = 51 ∨ N = 52 ∨ N = 53 ∨ N = 54 ∨ N = 55 ∨ N = 56 ∨ N = 57 ∨ N = 58 ∨ N = 59 ∨ N = 60 ∨ N = 61 ∨ N = 62 ∨ N = 63 := by omega
    rcases hz with rfl | rfl | rfl | rfl | rfl | rfl | rfl | rfl | rfl | rfl | rfl | rfl | rfl | rfl | rfl | rfl
    · exact mc_48
    · exact mc_49
    · exact mc_50
    · exact mc_51
    · exact mc_52
    · exact mc_53
    · exact mc_54
    · exact mc_55
    · exact mc_56
    · exact mc_57
    · exact mc_58
    · exact mc_59
    · exact mc_60
    · exact mc_61
    · exact mc_62
    · exact mc_63
  by_cases h64 : N < 80
  · have hz : N = 64 ∨ N = 65 ∨ N = 66 ∨ N = 67 ∨ N = 68 ∨ N = 69 ∨ N = 70 ∨ N = 71 ∨ N = 72 ∨ N = 73 ∨ N = 74 ∨ N = 75 ∨ N = 76 ∨ N = 77 ∨ N = 78 ∨ N = 79 := by omega
    rcases hz with rfl | rfl | rfl | rfl | rfl | rfl | rfl | rfl | rfl | rfl | rfl | rfl | rfl | rfl | rfl | rfl
    · exact mc_64
    · exact mc_65
    · exact mc_66
    · exact mc_67
    · exact mc_68
    · exact mc_69
    · exact mc_70
    · exact mc_71
    · exact mc_72
    · exact mc_73
    · exact mc_74
    · exact mc_75
    · exact mc_76
    · exact mc_77
    · exact mc_78
    · exact mc_79
  by_cases h80 : N < 96
  · have hz : N = 80 ∨ N = 81 ∨ N = 82 ∨ N = 83 ∨ N = 84 ∨ N = 85 ∨ N = 86 ∨ N = 87 ∨ N = 88 ∨ N = 89 ∨ N = 90 ∨ N = 91 ∨ N = 92 ∨ N = 93 ∨ N = 94 ∨ N = 95 := by omega
    rcases hz with rfl | rfl | rfl | rfl | rfl | rfl | rfl | rfl | rfl | rfl | rfl | rfl | rfl | rfl | rfl | rfl
    · exact mc_80
    · exact mc_81
    · exact mc_82
    · exact mc_83
    · exact mc_84
    · exact mc_85
    · exact mc_86
    · exact mc_87
    · exact mc_88
    · exact mc_89
    · exact mc_90
    · exact mc_91
    · exact mc_92
    · exact mc_93
    · exact mc_94
    · exact mc_95
  by_cases h96 : N < 112
  · have hz : N = 96 ∨ N = 97 ∨ N = 98 ∨ N = 99 ∨ N = 100 ∨ N = 101 ∨ N = 102 ∨ N = 103 ∨ N = 104 ∨ N = 105 ∨ N = 106 ∨ N = 107 ∨ N = 108 ∨ N = 109 ∨ N = 110 ∨ N = 111 := by omega
    rcases hz with rfl | rfl | rfl | rfl | rfl | rfl | rfl | rfl | rfl | rfl | rfl | rfl | rfl | rfl | rfl | rfl
    · exact mc_96
    · exact mc_97
    · exact mc_98
    · exact mc_99
    · exact mc_100
    · exact mc_101
    · exact mc_102
    · exact mc_103
    · exact mc_104
    · exact mc_105
    · exact mc_106
    · exact mc_107
    · exact mc_108
    · exact mc_109
    · exact mc_110
    · exact mc_111
  by_cases h112 : N < 128
  · have hz : N = 112 ∨ N = 113 ∨ N = 114 ∨ N = 115 ∨ N = 116 ∨ N = 117 ∨ N = 118 ∨ N = 119 ∨ N = 120 ∨ N = 121 ∨ N = 122 ∨ N = 123 ∨ N = 124 ∨ N = 125 ∨ N = 126 ∨ N = 127 := by omega
    rcases hz with rfl | rfl | rfl | rfl | rfl | rfl | rfl | rfl | rfl | rfl | rfl | rfl | rfl | rfl | rfl | rfl
    · exact mc_112
    · exact mc_113
    · exact mc_114
    · exact mc_115
    · exact mc_116
    · exact mc_117
    · exact mc_118
    · exact mc_119
    · exact mc_120
    · exact mc_121
    · exact mc_122
    · exact mc_123
    · exact mc_124
    · exact mc_125
    · exact mc_126
    · exact mc_127
  by_cases h128 : N < 144
  · have hz : N = 128 ∨ N = 129 ∨ N = 130 ∨ N = 131 ∨ N = 132 ∨ N = 133 ∨ N = 134 ∨ N = 135 ∨ N = 136 ∨ N = 137 ∨ N = 138 ∨ N = 139 ∨ N = 140 ∨ N = 141 ∨ N = 142 ∨ N = 143 := by omega
    rcases hz with rfl | rfl | rfl | rfl | rfl | rfl | rfl | rfl | rfl | rfl | rfl | rfl | rfl | rfl | rfl | rfl
    · exact mc_128
    · exact mc_129
    · exact mc_130
    · exact mc_131
    · exact mc_132
    · exact mc_133
    · exact mc_134
    · exact mc_135
    · exact mc_136
    · exact mc_137
    · exact mc_138
    · exact mc_139
    · exact mc_140
    · exact mc_141
    · exact mc_142
    · exact mc_143
  by_cases h144 : N < 160
  · have hz : N = 144 ∨ N = 145 ∨ N = 146 ∨ N = 147 ∨ N = 148 ∨ N = 149 ∨ N = 150 ∨ N = 151 ∨ N = 152 ∨ N = 153 ∨ N = 154 ∨ N = 155 ∨ N = 156 ∨ N = 157 ∨ N = 158 ∨ N = 159 := by omega
    rcases hz with rfl | rfl | rfl | rfl | rfl | rfl | rfl | rfl | rfl | rfl | rfl | rfl | rfl | rfl | rfl | rfl
    · exact mc_144
    · exact mc_145
    · exact mc_146
    · exact mc_147
    · exact mc_148
    · exact mc_149
    · exact mc_150
    · exact mc_151
    · exact mc_152
    · exact mc_153
    · exact mc_154
    · exact mc_155
    · exact mc_156
    · exact mc_157
    · exact mc_158
    · exact mc_159
  by_cases h160 : N < 176
  · have hz : N = 160 ∨ N = 161 ∨ N = 162 ∨ N = 163 ∨ N = 164 ∨ N = 165 ∨ N = 166 ∨ N = 167 ∨ N = 168 ∨ N = 169 ∨ N = 170 ∨ N = 171 ∨ N = 172 ∨ N = 173 ∨ N = 174 ∨ N = 175 := by omega
    rcases hz with rfl | rfl | rfl | rfl | rfl | rfl | rfl | rfl | rfl | rfl | rfl | rfl | rfl | rfl | rfl | rfl
    · exact mc_160
    · exact mc_161
    · exact mc_162
    · exact mc_163
    · exact mc_164
    · exact mc_165
    · exact mc_166
    · exact mc_167
    · exact mc_168
    · exact mc_169
    · exact mc_170
    · exact mc_171
    · exact mc_172
    · exact mc_173
    · exact mc_174
    · exact mc_175
  by_cases h176 : N < 192
  · have hz : N = 176 ∨ N = 177 ∨ N = 178 ∨ N = 179 ∨ N = 180 ∨ N = 181 ∨ N = 182 ∨ N = 183 ∨ N = 184 ∨ N = 185 ∨ N = 186 ∨ N = 187 ∨ N = 188 ∨ N = 189 ∨ N = 190 ∨ N = 191 := by omega
    rcases hz with rfl | rfl | rfl | rfl | rfl | rfl | rfl | rfl | rfl | rfl | rfl | rfl | rfl | rfl | rfl | rfl
    · exact mc_176
    · exact mc_177
    · exact mc_178
    · exact mc_179
    · exact mc_180
    · exact mc_181
    · exact mc_182
    · exact mc_183
    · exact mc_184
    · exact mc_185
    · exact mc_186
    · exact mc_187
    · exact mc_188
    · exact mc_189
    · exact mc_190
    · exact mc_191
  by_cases h192 : N < 208
  · have hz : N = 192 ∨ N = 193 ∨ N = 194 ∨ N = 195 ∨ N = 196 ∨ N = 197 ∨ N = 198 ∨ N = 199 ∨ N = 200 ∨ N = 201 ∨ N = 202 ∨ N = 203 ∨ N = 204 ∨ N = 205 ∨ N = 206 ∨ N = 207 := by omega
    rcases hz with rfl | rfl | rfl | rfl | rfl | rfl | rfl | rfl | rfl | rfl | rfl | rfl | rfl | rfl | rfl | rfl
    · exact mc_192
    · exact mc_193
    · exact mc_194
    · exact mc_195
    · exact mc_196
    · exact mc_197
    · exact mc_198
    · exact mc_199
    · exact mc_200
    · exact mc_201
    · exact mc_202
    · exact mc_203
    · exact mc_204
    · exact mc_205
    · exact mc_206
    · exact mc_207
  by_cases h208 : N < 224
  · have hz : N = 208 ∨ N = 209 ∨ N = 210 ∨ N = 211 ∨ N = 212 ∨ N = 213 ∨ N = 214 ∨ N = 215 ∨ N = 216 ∨ N = 217 ∨ N = 218 ∨ N = 219 ∨ N = 220 ∨ N = 221 ∨ N = 222 ∨ N = 223 := by omega
    rcases hz with rfl | rfl | rfl | rfl | rfl | rfl | rfl | rfl | rfl | rfl | rfl | rfl | rfl | rfl | rfl | rfl
    · exact mc_208
    · exact mc_209
    · exact mc_210
    · exact mc_211
    · exact mc_212
    · exact mc_213
    · exact mc_214
    · exact mc_215
    · exact mc_216
    · exact mc_217
    · exact mc_218
    · exact mc_219
    · exact mc_220
    · exact mc_221
    · exact mc_222
    · exact mc_223
  by_cases h224 : N < 240
  · have hz : N = 224 ∨ N = 225 ∨ N = 226 ∨ N = 227 ∨ N = 228 ∨ N = 229 ∨ N = 230 ∨ N = 231 ∨ N = 232 ∨ N = 233 ∨ N = 234 ∨ N = 235 ∨ N = 236 ∨ N = 237 ∨ N = 238 ∨ N = 239 := by omega
    rcases hz with rfl | rfl | rfl | rfl | rfl | rfl | rfl | rfl | rfl | rfl | rfl | rfl | rfl | rfl | rfl | rfl
    · exact mc_224
    · exact mc_225
    · exact mc_226
    · exact mc_227
    · exact mc_228
    · exact mc_229
    · exact mc_230
    · exact mc_231
    · exact mc_232
    · exact mc_233
    · exact mc_234
    · exact mc_235
    · exact mc_236
    · exact mc_237
    · exact mc_238
    · exact mc_239
  by_cases h240 : N < 256
  · have hz : N = 240 ∨ N = 241 ∨ N = 242 ∨ N = 243 ∨ N = 244 ∨ N = 245 ∨ N = 246 ∨ N = 247 ∨ N = 248 ∨ N = 249 ∨ N = 250 ∨ N = 251 ∨ N = 252 ∨ N = 253 ∨ N = 254 ∨ N = 255 := by omega
    rcases hz with rfl | rfl | rfl | rfl | rfl | rfl | rfl | rfl | rfl | rfl | rfl | rfl | rfl | rfl | rfl | rfl
    · exact mc_240
    · exact mc_241
    · exact mc_242
    · exact mc_243
    · exact mc_244
    · exact mc_245
    · exact mc_246
    · exact mc_247
    · exact mc_248
    · exact mc_249
    · exact mc_250
    · exact mc_251
    · exact mc_252
    · exact mc_253
    · exact mc_254
    · exact mc_255
  have hz : N = 256 ∨ N = 257 ∨ N = 258 := by omega
  rcases hz with rfl | rfl | rfl
  · exact mc_256
  · exact mc_257
  · exact mc_258
set_option maxRecDepth 20000 in
theorem ab_mok_0 : ∀ N, 0 ≤ N → N < 32 → ab_isMath N = false → ab_mok N = true := by
  have h : ((List.range 32).all fun k => ab_isMath (0 + k) || ab_mok (0 + k)) = true := by decide +kernel
  intro N h1 h2 h4
  have h3 := List.all_eq_true.mp h (N - 0) (List.mem_range.mpr (by omega))
  rw [show 0 + (N - 0) = N by omega, h4] at h3
  simpa using h3
set_option maxRecDepth 20000 in
theorem ab_mok_32 : ∀ N, 32 ≤ N → N < 64 → ab_isMath N = false → ab_mok N = true := by
  have h : ((List.range 32).all fun k => ab_isMath (32 + k) || ab_mok (32 + k)) = true := by decide +kernel
  intro N h1 h2 h4
  have h3 := List.all_eq_true.mp h (N - 32) (List.mem_range.mpr (by omega))
  rw [show 32 + (N - 32) = N by omega, h4] at h3
  simpa using h3
set_option maxRecDepth 20000 in
theorem ab_mok_64 : ∀ N, 64 ≤ N → N < 96 → ab_isMath N = false → ab_mok N = true := by
  have h : ((List.range 32).all fun k => ab_isMath (64 + k) || ab_mok (64 + k)) = true := by decide +kernel
  intro N h1 h2 h4
  have h3 := List.all_eq_true.mp h (N - 64) (List.mem_range.mpr (by omega))
  rw [show 64 + (N - 64) = N by omega, h4] at h3
  simpa using h3
set_option maxRecDepth 20000 in
theorem ab_mok_96 : ∀ N, 96 ≤ N → N < 128 → ab_isMath N = false → ab_mok N = true := by
  have h : ((List.range 32).all fun k => ab_isMath (96 + k) || ab_mok (96 + k)) = true := by decide +kernel
  intro N h1 h2 h4
  have h3 := List.all_eq_true.mp h (N - 96) (List.mem_range.mpr (by omega))
  rw [show 96 + (N - 96) = N by omega, h4] at h3
  simpa using h3
set_option maxRecDepth 20000 in
theorem ab_mok_128 : ∀ N, 128 ≤ N → N < 160 → ab_isMath N = false → ab_mok N = true := by
  have h : ((List.range 32).all fun k => ab_isMath (128 + k) || ab_mok (128 + k)) = true := by decide +kernel
  intro N h1 h2 h4
  have h3 := List.all_eq_true.mp h (N - 128) (List.mem_range.mpr (by omega))
  rw [show 128 + (N - 128) = N by omega, h4] at h3
  simpa using h3
set_option maxRecDepth 20000 in
theorem ab_mok_160 : ∀ N, 160 ≤ N → N < 192 → ab_isMath N = false → ab_mok N = true := by
  have h : ((List.range 32).all fun k => ab_isMath (160 + k) || ab_mok (160 + k)) = true := by decide +kernel
  intro N h1 h2 h4
  have h3 := List.all_eq_true.mp h (N - 160) (List.mem_range.mpr (by omega))
  rw [show 160 + (N - 160) = N by omega, h4] at h3
  simpa using h3
set_option maxRecDepth 20000 in
theorem ab_mok_192 : ∀ N, 192 ≤ N → N < 224 → ab_isMath N = false → ab_mok N = true := by
  have h : ((List.range 32).all fun k => ab_isMath (192 + k) || ab_mok (192 + k)) = true := by decide +kernel
  intro N h1 h2 h4
  have h3 := List.all_eq_true.mp h (N - 192) (List.mem_range.mpr (by omega))
  rw [show 192 + (N - 192) = N by omega, h4] at h3
  simpa using h3
set_option maxRecDepth 20000 in
theorem ab_mok_224 : ∀ N, 224 ≤ N → N < 259 → ab_isMath N = false → ab_mok N = true := by
  have h : ((List.range 35).all fun k => ab_isMath (224 + k) || ab_mok (224 + k)) = true := by decide +kernel
  intro N h1 h2 h4
  have h3 := List.all_eq_true.mp h (N - 224) (List.mem_range.mpr (by omega))
  rw [show 224 + (N - 224) = N by omega, h4] at h3
  simpa using h3
theorem ab_moks (N : Nat) (h : N < 259) (hm : ab_isMath N = false) : ab_hasC N ∧ ab_mok N = true := by
  refine ⟨ab_hasCs N h, ?_⟩
  by_cases h0 : N < 32
  · exact ab_mok_0 N (by omega) h0 hm
  by_cases h32 : N < 64
  · exact ab_mok_32 N (by omega) h32 hm
  by_cases h64 : N < 96
  · exact ab_mok_64 N (by omega) h64 hm
  by_cases h96 : N < 128
  · exact ab_mok_96 N (by omega) h96 hm
  by_cases h128 : N < 160
  · exact ab_mok_128 N (by omega) h128 hm
  by_cases h160 : N < 192
  · exact ab_mok_160 N (by omega) h160 hm
  by_cases h192 : N < 224
  · exact ab_mok_192 N (by omega) h192 hm
  by_cases h224 : N < 259
  · exact ab_mok_224 N (by omega) h224 hm
  omega
theorem ab_shorts (N : Nat) (h : N < 259) : (ab_meth N).2.2.2.1 ≠ some .short ∧ (ab_meth N).2.2.2.1 ≠ some .float ∧ (ab_meth N).2.2.2.1 ≠ some .double := by
  have hh : ((List.range 259).all fun k => decide ((ab_meth k).2.2.2.1 ≠ some .short ∧ (ab_meth k).2.2.2.1 ≠ some .float ∧ (ab_meth k).2.2.2.1 ≠ some .double)) = true := by decide +kernel
  exact of_decide_eq_true (List.all_eq_true.mp hh N (List.mem_range.mpr h))
