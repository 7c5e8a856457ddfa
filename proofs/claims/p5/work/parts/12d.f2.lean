theorem fc_0 (cA : Nat → ClassId) (b : Nat) (str : Nat → Nat) {k : Nat} (h1 : 0 ≤ k) (h2 : k < 16) : FN cA b str k := by
  rcases (show k = 0 ∨ k = 1 ∨ k = 2 ∨ k = 3 ∨ k = 4 ∨ k = 5 ∨ k = 6 ∨ k = 7 ∨ k = 8 ∨ k = 9 ∨ k = 10 ∨ k = 11 ∨ k = 12 ∨ k = 13 ∨ k = 14 ∨ k = 15 by omega) with rfl | rfl | rfl | rfl | rfl | rfl | rfl | rfl | rfl | rfl | rfl | rfl | rfl | rfl | rfl | rfl
  · exact fn_0 cA b str
  · exact fn_1 cA b str
  · exact fn_2 cA b str
  · exact fn_3 cA b str
  · exact fn_4 cA b str
  · exact fn_5 cA b str
  · exact fn_6 cA b str
  · exact fn_7 cA b str
  · exact fn_8 cA b str
  · exact fn_9 cA b str
  · exact fn_10 cA b str
  · exact fn_11 cA b str
  · exact fn_12 cA b str
  · exact fn_13 cA b str
  · exact fn_14 cA b str
  · exact fn_15 cA b str
theorem fc_16 (cA : Nat → ClassId) (b : Nat) (str : Nat → Nat) {k : Nat} (h1 : 16 ≤ k) (h2 : k < 32) : FN cA b str k := by
  rcases (show k = 16 ∨ k = 17 ∨ k = 18 ∨ k = 19 ∨ k = 20 ∨ k = 21 ∨ k = 22 ∨ k = 23 ∨ k = 24 ∨ k = 25 ∨ k = 26 ∨ k = 27 ∨ k = 28 ∨ k = 29 ∨ k = 30 ∨ k = 31 by omega) with rfl | rfl | rfl | rfl | rfl | rfl | rfl | rfl | rfl | rfl | rfl | rfl | rfl | rfl | rfl | rfl
  · exact fn_16 cA b str
  · exact fn_17 cA b str
  · exact fn_18 cA b str
  · exact fn_19 cA b str
  · exact fn_20 cA b str
  · exact fn_21 cA b str
  · exact fn_22 cA b str
  · exact fn_23 cA b str
  · exact fn_24 cA b str
  · exact fn_25 cA b str
  · exact fn_26 cA b str
  · exact fn_27 cA b str
  · exact fn_28 cA b str
  · exact fn_29 cA b str
  · exact fn_30 cA b str
  · exact fn_31 cA b str
theorem fc_32 (cA : Nat → ClassId) (b : Nat) (str : Nat → Nat) {k : Nat} (h1 : 32 ≤ k) (h2 : k < 48) : FN cA b str k := by
  rcases (show k = 32 ∨ k = 33 ∨ k = 34 ∨ k = 35 ∨ k = 36 ∨ k = 37 ∨ k = 38 ∨ k = 39 ∨ k = 40 ∨ k = 41 ∨ k = 42 ∨ k = 43 ∨ k = 44 ∨ k = 45 ∨ k = 46 ∨ k = 47 by omega) with rfl | rfl | rfl | rfl | rfl | rfl | rfl | rfl | rfl | rfl | rfl | rfl | rfl | rfl | rfl | rfl
  · exact fn_32 cA b str
  · exact fn_33 cA b str
  · exact fn_34 cA b str
  · exact fn_35 cA b str
  · exact fn_36 cA b str
  · exact fn_37 cA b str
  · exact fn_38 cA b str
  · exact fn_39 cA b str
  · exact fn_40 cA b str
  · exact fn_41 cA b str
  · exact fn_42 cA b str
  · exact fn_43 cA b str
  · exact fn_44 cA b str
  · exact fn_45 cA b str
  · exact fn_46 cA b str
  · exact fn_47 cA b str
theorem fc_48 (cA : Nat → ClassId) (b : Nat) (str : Nat → Nat) {k : Nat} (h1 : 48 ≤ k) (h2 : k < 64) : FN cA b str k := by
  rcases (show k = 48 ∨ k = 49 ∨ k = 50 ∨ k = 51 ∨ k = 52 ∨ k = 53 ∨ k = 54 ∨ k = 55 ∨ k = 56 ∨ k = 57 ∨ k = 58 ∨ k = 59 ∨ k = 60 ∨ k = 61 ∨ k = 62 ∨ k = 63 by omega) with rfl | rfl | rfl | rfl | rfl | rfl | rfl | rfl | rfl | rfl | rfl | rfl | rfl | rfl | rfl | rfl
  · exact fn_48 cA b str
  · exact fn_49 cA b str
  · exact fn_50 cA b str
  · exact fn_51 cA b str
  · exact fn_52 cA b str
  · exact fn_53 cA b str
  · exact fn_54 cA b str
  · exact fn_55 cA b str
  · exact fn_56 cA b str
  · exact fn_57 cA b str
  · exact fn_58 cA b str
  · exact fn_59 cA b str
  · exact fn_60 cA b str
  · exact fn_61 cA b str
  · exact fn_62 cA b str
  · exact fn_63 cA b str
theorem fc_64 (cA : Nat → ClassId) (b : Nat) (str : Nat → Nat) {k : Nat} (h1 : 64 ≤ k) (h2 : k < 80) : FN cA b str k := by
  rcases (show k = 64 ∨ k = 65 ∨ k = 66 ∨ k = 67 ∨ k = 68 ∨ k = 69 ∨ k = 70 ∨ k = 71 ∨ k = 72 ∨ k = 73 ∨ k = 74 ∨ k = 75 ∨ k = 76 ∨ k = 77 ∨ k = 78 ∨ k = 79 by omega) with rfl | rfl | rfl | rfl | rfl | rfl | rfl | rfl | rfl | rfl | rfl | rfl | rfl | rfl | rfl | rfl
  · exact fn_64 cA b str
  · exact fn_65 cA b str
  · exact fn_66 cA b str
  · exact fn_67 cA b str
  · exact fn_68 cA b str
  · exact fn_69 cA b str
  · exact fn_70 cA b str
  · exact fn_71 cA b str
  · exact fn_72 cA b str
  · exact fn_73 cA b str
  · exact fn_74 cA b str
  · exact fn_75 cA b str
  · exact fn_76 cA b str
  · exact fn_77 cA b str
  · exact fn_78 cA b str
  · exact fn_79 cA b str
theorem fc_80 (cA : Nat → ClassId) (b : Nat) (str : Nat → Nat) {k : Nat} (h1 : 80 ≤ k) (h2 : k < 96) : FN cA b str k := by
  rcases (show k = 80 ∨ k = 81 ∨ k = 82 ∨ k = 83 ∨ k = 84 ∨ k = 85 ∨ k = 86 ∨ k = 87 ∨ k = 88 ∨ k = 89 ∨ k = 90 ∨ k = 91 ∨ k = 92 ∨ k = 93 ∨ k = 94 ∨ k = 95 by omega) with rfl | rfl | rfl | rfl | rfl | rfl | rfl | rfl | rfl | rfl | rfl | rfl | rfl | rfl | rfl | rfl
  · exact fn_80 cA b str
  · exact fn_81 cA b str
  · exact fn_82 cA b str
  · exact fn_83 cA b str
  · exact fn_84 cA b str
  · exact fn_85 cA b str
  · exact fn_86 cA b str
  · exact fn_87 cA b str
  · exact fn_88 cA b str
  · exact fn_89 cA b str
  · exact fn_90 cA b str
  · exact fn_91 cA b str
  · exact fn_92 cA b str
  · exact fn_93 cA b str
  · exact fn_94 cA b str
  · exact fn_95 cA b str
theorem fc_96 (cA : Nat → ClassId) (b : Nat) (str : Nat → Nat) {k : Nat} (h1 : 96 ≤ k) (h2 : k < 112) : FN cA b str k := by
  rcases (show k = 96 ∨ k = 97 ∨ k = 98 ∨ k = 99 ∨ k = 100 ∨ k = 101 ∨ k = 102 ∨ k = 103 ∨ k = 104 ∨ k = 105 ∨ k = 106 ∨ k = 107 ∨ k = 108 ∨ k = 109 ∨ k = 110 ∨ k = 111 by omega) with rfl | rfl | rfl | rfl | rfl | rfl | rfl | rfl | rfl | rfl | rfl | rfl | rfl | rfl | rfl | rfl
  · exact fn_96 cA b str
  · exact fn_97 cA b str
  · exact fn_98 cA b str
  · exact fn_99 cA b str
  · exact fn_100 cA b str
  · exact fn_101 cA b str
  · exact fn_102 cA b str
  · exact fn_103 cA b str
  · exact fn_104 cA b str
  · exact fn_105 cA b str
  · exact fn_106 cA b str
  · exact fn_107 cA b str
  · exact fn_108 cA b str
  · exact fn_109 cA b str
  · exact fn_110 cA b str
  · exact fn_111 cA b str
theorem fc_112 (cA : Nat → ClassId) (b : Nat) (str : Nat → Nat) {k : Nat} (h1 : 112 ≤ k) (h2 : k < 128) : FN cA b str k := by
  rcases (show k = 112 ∨ k = 113 ∨ k = 114 ∨ k = 115 ∨ k = 116 ∨ k = 117 ∨ k = 118 ∨ k = 119 ∨ k = 120 ∨ k = 121 ∨ k = 122 ∨ k = 123 ∨ k = 124 ∨ k = 125 ∨ k = 126 ∨ k = 127 by omega) with rfl | rfl | rfl | rfl | rfl | rfl | rfl | rfl | rfl | rfl | rfl | rfl | rfl | rfl | rfl | rfl
  · exact fn_112 cA b str
  · exact fn_113 cA b str
  · exact fn_114 cA b str
  · exact fn_115 cA b str
  · exact fn_116 cA b str
  · exact fn_117 cA b str
  · exact fn_118 cA b str
  · exact fn_119 cA b str
  · exact fn_120 cA b str
  · exact fn_121 cA b str
  · exact fn_122 cA b str
  · exact fn_123 cA b str
  · exact fn_124 cA b str
  · exact fn_125 cA b str
  · exact fn_126 cA b str
  · exact fn_127 cA b str
theorem fc_128 (cA : Nat → ClassId) (b : Nat) (str : Nat → Nat) {k : Nat} (h1 : 128 ≤ k) (h2 : k < 144) : FN cA b str k := by
  rcases (show k = 128 ∨ k = 129 ∨ k = 130 ∨ k = 131 ∨ k = 132 ∨ k = 133 ∨ k = 134 ∨ k = 135 ∨ k = 136 ∨ k = 137 ∨ k = 138 ∨ k = 139 ∨ k = 140 ∨ k = 141 ∨ k = 142 ∨ k = 143 by omega) with rfl | rfl | rfl | rfl | rfl | rfl | rfl | rfl | rfl | rfl | rfl | rfl | rfl | rfl | rfl | rfl
  · exact fn_128 cA b str
  · exact fn_129 cA b str
  · exact fn_130 cA b str
  · exact fn_131 cA b str
  · exact fn_132 cA b str
  · exact fn_133 cA b str
  · exact fn_134 cA b str
  · exact fn_135 cA b str
  · exact fn_136 cA b str
  · exact fn_137 cA b str
  · exact fn_138 cA b str
  · exact fn_139 cA b str
  · exact fn_140 cA b str
  · exact fn_141 cA b str
  · exact fn_142 cA b str
  · exact fn_143 cA b str
theorem fc_144 (cA : Nat → ClassId) (b : Nat) (str : Nat → Nat) {k : Nat} (h1 : 144 ≤ k) (h2 : k < 160) : FN cA b str k := by
  rcases (show k = 144 ∨ k = 145 ∨ k = 146 ∨ k = 147 ∨ k = 148 ∨ k = 149 ∨ k = 150 ∨ k = 151 ∨ k = 152 ∨ k = 153 ∨ k = 154 ∨ k = 155 ∨ k = 156 ∨ k = 157 ∨ k = 158 ∨ k = 159 by omega) with rfl | rfl | rfl | rfl | rfl | rfl | rfl | rfl | rfl | rfl | rfl | rfl | rfl | rfl | rfl | rfl
  · exact fn_144 cA b str
  · exact fn_145 cA b str
  · exact fn_146 cA b str
  · exact fn_147 cA b str
  · exact fn_148 cA b str
  · exact fn_149 cA b str
  · exact fn_150 cA b str
  · exact fn_151 cA b str
  · exact fn_152 cA b str
  · exact fn_153 cA b str
  · exact fn_154 cA b str
  · exact fn_155 cA b str
  · exact fn_156 cA b str
  · exact fn_157 cA b str
  · exact fn_158 cA b str
  · exact fn_159 cA b str
theorem fc_160 (cA : Nat → ClassId) (b : Nat) (str : Nat → Nat) {k : Nat} (h1 : 160 ≤ k) (h2 : k < 176) : FN cA b str k := by
  rcases (show k = 160 ∨ k = 161 ∨ k = 162 ∨ k = 163 ∨ k = 164 ∨ k = 165 ∨ k = 166 ∨ k = 167 ∨ k = 168 ∨ k = 169 ∨ k = 170 ∨ k = 171 ∨ k = 172 ∨ k = 173 ∨ k = 174 ∨ k = 175 by omega) with rfl | rfl | rfl | rfl | rfl | rfl | rfl | rfl | rfl | rfl | rfl | rfl | rfl | rfl | rfl | rfl
  · exact fn_160 cA b str
  · exact fn_161 cA b str
  · exact fn_162 cA b str
  · exact fn_163 cA b str
  · exact fn_164 cA b str
  · exact fn_165 cA b str
  · exact fn_166 cA b str
  · exact fn_167 cA b str
  · exact fn_168 cA b str
  · exact fn_169 cA b str
  · exact fn_170 cA b str
  · exact fn_171 cA b str
  · exact fn_172 cA b str
  · exact fn_173 cA b str
  · exact fn_174 cA b str
  · exact fn_175 cA b str
theorem fc_176 (cA : Nat → ClassId) (b : Nat) (str : Nat → Nat) {k : Nat} (h1 : 176 ≤ k) (h2 : k < 192) : FN cA b str k := by
  rcases (show k = 176 ∨ k = 177 ∨ k = 178 ∨ k = 179 ∨ k = 180 ∨ k = 181 ∨ k = 182 ∨ k = 183 ∨ k = 184 ∨ k = 185 ∨ k = 186 ∨ k = 187 ∨ k = 188 ∨ k = 189 ∨ k = 190 ∨ k = 191 by omega) with rfl | rfl | rfl | rfl | rfl | rfl | rfl | rfl | rfl | rfl | rfl | rfl | rfl | rfl | rfl | rfl
  · exact fn_176 cA b str
  · exact fn_177 cA b str
  · exact fn_178 cA b str
  · exact fn_179 cA b str
  · exact fn_180 cA b str
  · exact fn_181 cA b str
  · exact fn_182 cA b str
  · exact fn_183 cA b str
  · exact fn_184 cA b str
  · exact fn_185 cA b str
  · exact fn_186 cA b str
  · exact fn_187 cA b str
  · exact fn_188 cA b str
  · exact fn_189 cA b str
  · exact fn_190 cA b str
  · exact fn_191 cA b str
theorem fc_192 (cA : Nat → ClassId) (b : Nat) (str : Nat → Nat) {k : Nat} (h1 : 192 ≤ k) (h2 : k < 208) : FN cA b str k := by
  rcases (show k = 192 ∨ k = 193 ∨ k = 194 ∨ k = 195 ∨ k = 196 ∨ k = 197 ∨ k = 198 ∨ k = 199 ∨ k = 200 ∨ k = 201 ∨ k = 202 ∨ k = 203 ∨ k = 204 ∨ k = 205 ∨ k = 206 ∨ k = 207 by omega) with rfl | rfl | rfl | rfl | rfl | rfl | rfl | rfl | rfl | rfl | rfl | rfl | rfl | rfl | rfl | rfl
  · exact fn_192 cA b str
  · exact fn_193 cA b str
  · exact fn_194 cA b str
  · exact fn_195 cA b str
  · exact fn_196 cA b str
  · exact fn_197 cA b str
  · exact fn_198 cA b str
  · exact fn_199 cA b str
  · exact fn_200 cA b str
  · exact fn_201 cA b str
  · exact fn_202 cA b str
  · exact fn_203 cA b str
  · exact fn_204 cA b str
  · exact fn_205 cA b str
  · exact fn_206 cA b str
  · exact fn_207 cA b str
theorem fc_208 (cA : Nat → ClassId) (b : Nat) (str : Nat → Nat) {k : Nat} (h1 : 208 ≤ k) (h2 : k < 224) : FN cA b str k := by
  rcases (show k = 208 ∨ k = 209 ∨ k = 210 ∨ k = 211 ∨ k = 212 ∨ k = 213 ∨ k = 214 ∨ k = 215 ∨ k = 216 ∨ k = 217 ∨ k = 218 ∨ k = 219 ∨ k = 220 ∨ k = 221 ∨ k = 222 ∨ k = 223 by omega) with rfl | rfl | rfl | rfl | rfl | rfl | rfl | rfl | rfl | rfl | rfl | rfl | rfl | rfl | rfl | rfl
  · exact fn_208 cA b str
  · exact fn_209 cA b str
  · exact fn_210 cA b str
  · exact fn_211 cA b str
  · exact fn_212 cA b str
  · exact fn_213 cA b str
  · exact fn_214 cA b str
  · exact fn_215 cA b str
  · exact fn_216 cA b str
  · exact fn_217 cA b str
  · exact fn_218 cA b str
  · exact fn_219 cA b str
  · exact fn_220 cA b str
  · exact fn_221 cA b str
  · exact fn_222 cA b str
  · exact fn_223 cA b str
theorem fc_224 (cA : Nat → ClassId) (b : Nat) (str : Nat → Nat) {k : Nat} (h1 : 224 ≤ k) (h2 : k < 240) : FN cA b str k := by
  rcases (show k = 224 ∨ k = 225 ∨ k = 226 ∨ k = 227 ∨ k = 228 ∨ k = 229 ∨ k = 230 ∨ k = 231 ∨ k = 232 ∨ k = 233 ∨ k = 234 ∨ k = 235 ∨ k = 236 ∨ k = 237 ∨ k = 238 ∨ k = 239 by omega) with rfl | rfl | rfl | rfl | rfl | rfl | rfl | rfl | rfl | rfl | rfl | rfl | rfl | rfl | rfl | rfl
  · exact fn_224 cA b str
  · exact fn_225 cA b str
  · exact fn_226 cA b str
  · exact fn_227 cA b str
  · exact fn_228 cA b str
  · exact fn_229 cA b str
  · exact fn_230 cA b str
  · exact fn_231 cA b str
  · exact fn_232 cA b str
  · exact fn_233 cA b str
  · exact fn_234 cA b str
  · exact fn_235 cA b str
  · exact fn_236 cA b str
  · exact fn_237 cA b str
  · exact fn_238 cA b str
  · exact fn_239 cA b str
theorem fc_240 (cA : Nat → ClassId) (b : Nat) (str : Nat → Nat) {k : Nat} (h1 : 240 ≤ k) (h2 : k < 256) : FN cA b str k := by
  rcases (show k = 240 ∨ k = 241 ∨ k = 242 ∨ k = 243 ∨ k = 244 ∨ k = 245 ∨ k = 246 ∨ k = 247 ∨ k = 248 ∨ k = 249 ∨ k = 250 ∨ k = 251 ∨ k = 252 ∨ k = 253 ∨ k = 254 ∨ k = 255 by omega) with rfl | rfl | rfl | rfl | rfl | rfl | rfl | rfl | rfl | rfl | rfl | rfl | rfl | rfl | rfl | rfl
  · exact fn_240 cA b str
  · exact fn_241 cA b str
  · exact fn_242 cA b str
  · exact fn_243 cA b str
  · exact fn_244 cA b str
  · exact fn_245 cA b str
  · exact fn_246 cA b str
  · exact fn_247 cA b str
  · exact fn_248 cA b str
  · exact fn_249 cA b str
  · exact fn_250 cA b str
  · exact fn_251 cA b str
  · exact fn_252 cA b str
  · exact fn_253 cA b str
  · exact fn_254 cA b str
  · exact fn_255 cA b str
theorem fc_256 (cA : Nat → ClassId) (b : Nat) (str : Nat → Nat) {k : Nat} (h1 : 256 ≤ k) (h2 : k < 272) : FN cA b str k := by
  rcases (show k = 256 ∨ k = 257 ∨ k = 258 ∨ k = 259 ∨ k = 260 ∨ k = 261 ∨ k = 262 ∨ k = 263 ∨ k = 264 ∨ k = 265 ∨ k = 266 ∨ k = 267 ∨ k = 268 ∨ k = 269 ∨ k = 270 ∨ k = 271 by omega) with rfl | rfl | rfl | rfl | rfl | rfl | rfl | rfl | rfl | rfl | rfl | rfl | rfl | rfl | rfl | rfl
  · exact fn_256 cA b str
  · exact fn_257 cA b str
  · exact fn_258 cA b str
  · exact fn_259 cA b str
  · exact fn_260 cA b str
  · exact fn_261 cA b str
  · exact fn_262 cA b str
  · exact fn_263 cA b str
  · exact fn_264 cA b str
  · exact fn_265 cA b str
  · exact fn_266 cA b str
  · exact fn_267 cA b str
  · exact fn_268 cA b str
  · exact fn_269 cA b str
  · exact fn_270 cA b str
  · exact fn_271 cA b str
theorem fc_272 (cA : Nat → ClassId) (b : Nat) (str : Nat → Nat) {k : Nat} (h1 : 272 ≤ k) (h2 : k < 288) : FN cA b str k := by
  rcases (show k = 272 ∨ k = 273 ∨ k = 274 ∨ k = 275 ∨ k = 276 ∨ k = 277 ∨ k = 278 ∨ k = 279 ∨ k = 280 ∨ k = 281 ∨ k = 282 ∨ k = 283 ∨ k = 284 ∨ k = 285 ∨ k = 286 ∨ k = 287 by omega) with rfl | rfl | rfl | rfl | rfl | rfl | rfl | rfl | rfl | rfl | rfl | rfl | rfl | rfl | rfl | rfl
  · exact fn_272 cA b str
  · exact fn_273 cA b str
  · exact fn_274 cA b str
  · exact fn_275 cA b str
  · exact fn_276 cA b str
  · exact fn_277 cA b str
  · exact fn_278 cA b str
  · exact fn_279 cA b str
  · exact fn_280 cA b str
  · exact fn_281 cA b str
  · exact fn_282 cA b str
  · exact fn_283 cA b str
  · exact fn_284 cA b str
  · exact fn_285 cA b str
  · exact fn_286 cA b str
  · exact fn_287 cA b str
theorem fc_288 (cA : Nat → ClassId) (b : Nat) (str : Nat → Nat) {k : Nat} (h1 : 288 ≤ k) (h2 : k < 304) : FN cA b str k := by
  rcases (show k = 288 ∨ k = 289 ∨ k = 290 ∨ k = 291 ∨ k = 292 ∨ k = 293 ∨ k = 294 ∨ k = 295 ∨ k = 296 ∨ k = 297 ∨ k = 298 ∨ k = 299 ∨ k = 300 ∨ k = 301 ∨ k = 302 ∨ k = 303 by omega) with rfl | rfl | rfl | rfl | rfl | rfl | rfl | rfl | rfl | rfl | rfl | rfl | rfl | rfl | rfl | rfl
  · exact fn_288 cA b str
  · exact fn_289 cA b str
  · exact fn_290 cA b str
  · exact fn_291 cA b str
  · exact fn_292 cA b str
  · exact fn_293 cA b str
  · exact fn_294 cA b str
  · exact fn_295 cA b str
  · exact fn_296 cA b str
  · exact fn_297 cA b str
  · exact fn_298 cA b str
  · exact fn_299 cA b str
  · exact fn_300 cA b str
  · exact fn_301 cA b str
  · exact fn_302 cA b str
  · exact fn_303 cA b str
theorem fc_304 (cA : Nat → ClassId) (b : Nat) (str : Nat → Nat) {k : Nat} (h1 : 304 ≤ k) (h2 : k < 320) : FN cA b str k := by
  rcases (show k = 304 ∨ k = 305 ∨ k = 306 ∨ k = 307 ∨ k = 308 ∨ k = 309 ∨ k = 310 ∨ k = 311 ∨ k = 312 ∨ k = 313 ∨ k = 314 ∨ k = 315 ∨ k = 316 ∨ k = 317 ∨ k = 318 ∨ k = 319 by omega) with rfl | rfl | rfl | rfl | rfl | rfl | rfl | rfl | rfl | rfl | rfl | rfl | rfl | rfl | rfl | rfl
  · exact fn_304 cA b str
  · exact fn_305 cA b str
  · exact fn_306 cA b str
  · exact fn_307 cA b str
  · exact fn_308 cA b str
  · exact fn_309 cA b str
  · exact fn_310 cA b str
  · exact fn_311 cA b str
  · exact fn_312 cA b str
  · exact fn_313 cA b str
  · exact fn_314 cA b str
  · exact fn_315 cA b str
  · exact fn_316 cA b str
  · exact fn_317 cA b str
  · exact fn_318 cA b str
  · exact fn_319 cA b str
theorem fc_320 (cA : Nat → ClassId) (b : Nat) (str : Nat → Nat) {k : Nat} (h1 : 320 ≤ k) (h2 : k < 336) : FN cA b str k := by
  rcases (show k = 320 ∨ k = 321 ∨ k = 322 ∨ k = 323 ∨ k = 324 ∨ k = 325 ∨ k = 326 ∨ k = 327 ∨ k = 328 ∨ k = 329 ∨ k = 330 ∨ k = 331 ∨ k = 332 ∨ k = 333 ∨ k = 334 ∨ k = 335 by omega) with rfl | rfl | rfl | rfl | rfl | rfl | rfl | rfl | rfl | rfl | rfl | rfl | rfl | rfl | rfl | rfl
  · exact fn_320 cA b str
  · exact fn_321 cA b str
  · exact fn_322 cA b str
  · exact fn_323 cA b str
  · exact fn_324 cA b str
  · exact fn_325 cA b str
  · exact fn_326 cA b str
  · exact fn_327 cA b str
  · exact fn_328 cA b str
  · exact fn_329 cA b str
  · exact fn_330 cA b str
  · exact fn_331 cA b str
  · exact fn_332 cA b str
  · exact fn_333 cA b str
  · exact fn_334 cA b str
  · exact fn_335 cA b str
theorem fc_336 (cA : Nat → ClassId) (b : Nat) (str : Nat → Nat) {k : Nat} (h1 : 336 ≤ k) (h2 : k < 352) : FN cA b str k := by
  rcases (show k = 336 ∨ k = 337 ∨ k = 338 ∨ k = 339 ∨ k = 340 ∨ k = 341 ∨ k = 342 ∨ k = 343 ∨ k = 344 ∨ k = 345 ∨ k = 346 ∨ k = 347 ∨ k = 348 ∨ k = 349 ∨ k = 350 ∨ k = 351 by omega) with rfl | rfl | rfl | rfl | rfl | rfl | rfl | rfl | rfl | rfl | rfl | rfl | rfl | rfl | rfl | rfl
  · exact fn_336 cA b str
  · exact fn_337 cA b str
  · exact fn_338 cA b str
  · exact fn_339 cA b str
  · exact fn_340 cA b str
  · exact fn_341 cA b str
  · exact fn_342 cA b str
  · exact fn_343 cA b str
  · exact fn_344 cA b str
  · exact fn_345 cA b str
  · exact fn_346 cA b str
  · exact fn_347 cA b str
  · exact fn_348 cA b str
  · exact fn_349 cA b str
  · exact fn_350 cA b str
  · exact fn_351 cA b str
theorem fc_352 (cA : Nat → ClassId) (b : Nat) (str : Nat → Nat) {k : Nat} (h1 : 352 ≤ k) (h2 : k < 368) : FN cA b str k := by
  rcases (show k = 352 ∨ k = 353 ∨ k = 354 ∨ k = 355 ∨ k = 356 ∨ k = 357 ∨ k = 358 ∨ k = 359 ∨ k = 360 ∨ k = 361 ∨ k = 362 ∨ k = 363 ∨ k = 364 ∨ k = 365 ∨ k = 366 ∨ k = 367 by omega) with rfl | rfl | rfl | rfl | rfl | rfl | rfl | rfl | rfl | rfl | rfl | rfl | rfl | rfl | rfl | rfl
  · exact fn_352 cA b str
  · exact fn_353 cA b str
  · exact fn_354 cA b str
  · exact fn_355 cA b str
  · exact fn_356 cA b str
  · exact fn_357 cA b str
  · exact fn_358 cA b str
  · exact fn_359 cA b str
  · exact fn_360 cA b str
  · exact fn_361 cA b str
  · exact fn_362 cA b str
  · exact fn_363 cA b str
  · exact fn_364 cA b str
  · exact fn_365 cA b str
  · exact fn_366 cA b str
  · exact fn_367 cA b str
theorem fc_368 (cA : Nat → ClassId) (b : Nat) (str : Nat → Nat) {k : Nat} (h1 : 368 ≤ k) (h2 : k < 384) : FN cA b str k := by
  rcases (show k = 368 ∨ k = 369 ∨ k = 370 ∨ k = 371 ∨ k = 372 ∨ k = 373 ∨ k = 374 ∨ k = 375 ∨ k = 376 ∨ k = 377 ∨ k = 378 ∨ k = 379 ∨ k = 380 ∨ k = 381 ∨ k = 382 ∨ k = 383 by omega) with rfl | rfl | rfl | rfl | rfl | rfl | rfl | rfl | rfl | rfl | rfl | rfl | rfl | rfl | rfl | rfl
  · exact fn_368 cA b str
  · exact fn_369 cA b str
  · exact fn_370 cA b str
  · exact fn_371 cA b str
  · exact fn_372 cA b str
  · exact fn_373 cA b str
  · exact fn_374 cA b str
  · exact fn_375 cA b str
  · exact fn_376 cA b str
  · exact fn_377 cA b str
  · exact fn_378 cA b str
  · exact fn_379 cA b str
  · exact fn_380 cA b str
  · exact fn_381 cA b str
  · exact fn_382 cA b str
  · exact fn_383 cA b str
theorem fc_384 (cA : Nat → ClassId) (b : Nat) (str : Nat → Nat) {k : Nat} (h1 : 384 ≤ k) (h2 : k < 400) : FN cA b str k := by
  rcases (show k = 384 ∨ k = 385 ∨ k = 386 ∨ k = 387 ∨ k = 388 ∨ k = 389 ∨ k = 390 ∨ k = 391 ∨ k = 392 ∨ k = 393 ∨ k = 394 ∨ k = 395 ∨ k = 396 ∨ k = 397 ∨ k = 398 ∨ k = 399 by omega) with rfl | rfl | rfl | rfl | rfl | rfl | rfl | rfl | rfl | rfl | rfl | rfl | rfl | rfl | rfl | rfl
  · exact fn_384 cA b str
  · exact fn_385 cA b str
  · exact fn_386 cA b str
  · exact fn_387 cA b str
  · exact fn_388 cA b str
  · exact fn_389 cA b str
  · exact fn_390 cA b str
  · exact fn_391 cA b str
  · exact fn_392 cA b str
  · exact fn_393 cA b str
  · exact fn_394 cA b str
  · exact fn_395 cA b str
  · exact fn_396 cA b str
  · exact fn_397 cA b str
  · exact fn_398 cA b str
  · exact fn_399 cA b str
theorem fc_400 (cA : Nat → ClassId) (b : Nat) (str : Nat → Nat) {k : Nat} (h1 : 400 ≤ k) (h2 : k < 407) : FN cA b str k := by
  rcases (show k = 400 ∨ k = 401 ∨ k = 402 ∨ k = 403 ∨ k = 404 ∨ k = 405 ∨ k = 406 by omega) with rfl | rfl | rfl | rfl | rfl | rfl | rfl
  · exact fn_400 cA b str
  · exact fn_401 cA b str
  · exact fn_402 cA b str
  · exact fn_403 cA b str
  · exact fn_404 cA b str
  · exact fn_405 cA b str
  · exact fn_406 cA b str
theorem fn_all (cA : Nat → ClassId) (b : Nat) (str : Nat → Nat) (k : Nat) (hk : k < 407) : FN cA b str k := by
  by_cases c0 : k < 16
  · exact fc_0 cA b str (by omega) c0
  by_cases c16 : k < 32
  · exact fc_16 cA b str (by omega) c16
  by_cases c32 : k < 48
  · exact fc_32 cA b str (by omega) c32
  by_cases c48 : k < 64
  · exact fc_48 cA b str (by omega) c48
  by_cases c64 : k < 80
  · exact fc_64 cA b str (by omega) c64
  by_cases c80 : k < 96
  · exact fc_80 cA b str (by omega) c80
  by_cases c96 : k < 112
  · exact fc_96 cA b str (by omega) c96
  by_cases c112 : k < 128
  · exact fc_112 cA b str (by omega) c112
  by_cases c128 : k < 144
  · exact fc_128 cA b str (by omega) c128
  by_cases c144 : k < 160
  · exact fc_144 cA b str (by omega) c144
  by_cases c160 : k < 176
  · exact fc_160 cA b str (by omega) c160
  by_cases c176 : k < 192
  · exact fc_176 cA b str (by omega) c176
  by_cases c192 : k < 208
  · exact fc_192 cA b str (by omega) c192
  by_cases c208 : k < 224
  · exact fc_208 cA b str (by omega) c208
  by_cases c224 : k < 240
  · exact fc_224 cA b str (by omega) c224
  by_cases c240 : k < 256
  · exact fc_240 cA b str (by omega) c240
  by_cases c256 : k < 272
  · exact fc_256 cA b str (by omega) c256
  by_cases c272 : k < 288
  · exact fc_272 cA b str (by omega) c272
  by_cases c288 : k < 304
  · exact fc_288 cA b str (by omega) c288
  by_cases c304 : k < 320
  · exact fc_304 cA b str (by omega) c304
  by_cases c320 : k < 336
  · exact fc_320 cA b str (by omega) c320
  by_cases c336 : k < 352
  · exact fc_336 cA b str (by omega) c336
  by_cases c352 : k < 368
  · exact fc_352 cA b str (by omega) c352
  by_cases c368 : k < 384
  · exact fc_368 cA b str (by omega) c368
  by_cases c384 : k < 400
  · exact fc_384 cA b str (by omega) c384
  exact fc_400 cA b str (by omega) (by omega)
