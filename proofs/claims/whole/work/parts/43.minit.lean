/-! the reference's constructor -/
def bL (l : List Nat) : Nat → Nat := fun k => l.getD k 0
def tk (L : List Int32) (k : Nat) : Nat → Int32 := fun j => if j < k then L.getD j 0 else 0
theorem tk_0 (L : List Int32) : (fun _ => 0) = tk L 0 := by
  funext j
  unfold tk
  rw [if_neg (Nat.not_lt_zero j)]
theorem tk_step {L : List Int32} {k : Nat} {x : Int32} (h : x = L.getD k 0) : upd (tk L k) k x = tk L (k + 1) := by
  funext j
  unfold upd tk
  by_cases e : j = k
  · rw [if_pos e, if_pos (by omega), h, e]
  · rw [if_neg e]
    by_cases e2 : j < k
    · rw [if_pos e2, if_pos (by omega)]
    · rw [if_neg e2, if_neg (by omega)]
theorem tk_in {L : List Int32} {k : Nat} : ∀ j, j < k → tk L k j = L.getD j 0 := fun j hj => if_pos hj
theorem upd_zero (i : Nat) : upd (fun _ => 0) i 0 = fun _ => 0 := by
  funext j
  unfold upd
  split <;> rfl
def xyT : Nat → Nat × Nat
  | 0 => (1, 0)
  | t + 1 => ((xyT t).2, (2 * (xyT t).1 + 3 * (xyT t).2) % 5)
def tT : Nat → Nat → Int32
  | 0 => fun _ => 0
  | t + 1 => upd (tT t) ((xyT t).1 + 5 * (xyT t).2) (nI ((t + 1) * (t + 2) / 2 % 64))
theorem xyT_lt : ∀ t, t < 25 → (xyT t).1 < 5 ∧ (xyT t).2 < 5 := by decide +kernel
theorem tT_24 : ∀ k, k < 25 → tT 24 k = s_turns.getD k 0 := by decide +kernel

set_option maxRecDepth 20000 in
theorem ggX11_init_X11_measure : GoodIn wsX11_init wsX11_measure := goodIn_r _ [116, 106, 117, 110, 109, 108, 107, 118, 119, 120, 121, 122, 123, 124, 125, 126, 127, 128, 129, 130, 131, 132, 133, 134, 135, 136, 137, 138, 139, 140, 141, 142, 143, 144, 145, 146, 147, 148, 149, 150, 151, 152, 153, 154, 155, 156, 157, 158, 159, 160, 161] rfl (by decide +kernel)
set_option maxRecDepth 20000 in
theorem gX11_init_X11_measure : GoodIn wsX11_init (wsV RX11 181 RX11 yX11_measure wsX11_measure) := goodIn_app (goodIn_of _ (by decide +kernel)) ggX11_init_X11_measure
theorem dX11_init_0 : decode cX11_init 0 = .ok (.aload_n 0, 1) := by decide +kernel
theorem dX11_init_1 : decode cX11_init 1 = .ok (.invokespecial 1, 3) := by decide +kernel
theorem dX11_init_4 : decode cX11_init 4 = .ok (.aload_n 0, 1) := by decide +kernel
theorem dX11_init_5 : decode cX11_init 5 = .ok (.sipush 600, 3) := by decide +kernel
theorem dX11_init_8 : decode cX11_init 8 = .ok (.newarray .byte, 2) := by decide +kernel
theorem dX11_init_10 : decode cX11_init 10 = .ok (.putfield 7, 3) := by decide +kernel
theorem dX11_init_13 : decode cX11_init 13 = .ok (.aload_n 0, 1) := by decide +kernel
theorem dX11_init_14 : decode cX11_init 14 = .ok (.sipush 1400, 3) := by decide +kernel
theorem dX11_init_17 : decode cX11_init 17 = .ok (.newarray .byte, 2) := by decide +kernel
theorem dX11_init_19 : decode cX11_init 19 = .ok (.putfield 13, 3) := by decide +kernel
theorem dX11_init_22 : decode cX11_init 22 = .ok (.aload_n 0, 1) := by decide +kernel
theorem dX11_init_23 : decode cX11_init 23 = .ok (.bipush 32, 2) := by decide +kernel
theorem dX11_init_25 : decode cX11_init 25 = .ok (.newarray .byte, 2) := by decide +kernel
theorem dX11_init_27 : decode cX11_init 27 = .ok (.putfield 16, 3) := by decide +kernel
theorem dX11_init_30 : decode cX11_init 30 = .ok (.aload_n 0, 1) := by decide +kernel
theorem dX11_init_31 : decode cX11_init 31 = .ok (.bipush 64, 2) := by decide +kernel
theorem dX11_init_33 : decode cX11_init 33 = .ok (.newarray .int, 2) := by decide +kernel
theorem dX11_init_35 : decode cX11_init 35 = .ok (.putfield 19, 3) := by decide +kernel
theorem dX11_init_38 : decode cX11_init 38 = .ok (.aload_n 0, 1) := by decide +kernel
theorem dX11_init_39 : decode cX11_init 39 = .ok (.bipush 8, 2) := by decide +kernel
theorem dX11_init_41 : decode cX11_init 41 = .ok (.newarray .int, 2) := by decide +kernel
theorem dX11_init_43 : decode cX11_init 43 = .ok (.putfield 23, 3) := by decide +kernel
theorem dX11_init_46 : decode cX11_init 46 = .ok (.aload_n 0, 1) := by decide +kernel
theorem dX11_init_47 : decode cX11_init 47 = .ok (.bipush 8, 2) := by decide +kernel
theorem dX11_init_49 : decode cX11_init 49 = .ok (.newarray .int, 2) := by decide +kernel
theorem dX11_init_51 : decode cX11_init 51 = .ok (.dup, 1) := by decide +kernel
theorem dX11_init_52 : decode cX11_init 52 = .ok (.iconst 0, 1) := by decide +kernel
theorem dX11_init_53 : decode cX11_init 53 = .ok (.ldc 26, 2) := by decide +kernel
theorem dX11_init_55 : decode cX11_init 55 = .ok (.iastore, 1) := by decide +kernel
theorem dX11_init_56 : decode cX11_init 56 = .ok (.dup, 1) := by decide +kernel
theorem dX11_init_57 : decode cX11_init 57 = .ok (.iconst 1, 1) := by decide +kernel
theorem dX11_init_58 : decode cX11_init 58 = .ok (.ldc 27, 2) := by decide +kernel
theorem dX11_init_60 : decode cX11_init 60 = .ok (.iastore, 1) := by decide +kernel
theorem dX11_init_61 : decode cX11_init 61 = .ok (.dup, 1) := by decide +kernel
theorem dX11_init_62 : decode cX11_init 62 = .ok (.iconst 2, 1) := by decide +kernel
theorem dX11_init_63 : decode cX11_init 63 = .ok (.ldc 28, 2) := by decide +kernel
theorem dX11_init_65 : decode cX11_init 65 = .ok (.iastore, 1) := by decide +kernel
theorem dX11_init_66 : decode cX11_init 66 = .ok (.dup, 1) := by decide +kernel
theorem dX11_init_67 : decode cX11_init 67 = .ok (.iconst 3, 1) := by decide +kernel
theorem dX11_init_68 : decode cX11_init 68 = .ok (.ldc 29, 2) := by decide +kernel
theorem dX11_init_70 : decode cX11_init 70 = .ok (.iastore, 1) := by decide +kernel
theorem dX11_init_71 : decode cX11_init 71 = .ok (.dup, 1) := by decide +kernel
theorem dX11_init_72 : decode cX11_init 72 = .ok (.iconst 4, 1) := by decide +kernel
theorem dX11_init_73 : decode cX11_init 73 = .ok (.ldc 30, 2) := by decide +kernel
theorem dX11_init_75 : decode cX11_init 75 = .ok (.iastore, 1) := by decide +kernel
theorem dX11_init_76 : decode cX11_init 76 = .ok (.dup, 1) := by decide +kernel
theorem dX11_init_77 : decode cX11_init 77 = .ok (.iconst 5, 1) := by decide +kernel
theorem dX11_init_78 : decode cX11_init 78 = .ok (.ldc 31, 2) := by decide +kernel
theorem dX11_init_80 : decode cX11_init 80 = .ok (.iastore, 1) := by decide +kernel
theorem dX11_init_81 : decode cX11_init 81 = .ok (.dup, 1) := by decide +kernel
theorem dX11_init_82 : decode cX11_init 82 = .ok (.bipush 6, 2) := by decide +kernel
theorem dX11_init_84 : decode cX11_init 84 = .ok (.ldc 32, 2) := by decide +kernel
theorem dX11_init_86 : decode cX11_init 86 = .ok (.iastore, 1) := by decide +kernel
theorem dX11_init_87 : decode cX11_init 87 = .ok (.dup, 1) := by decide +kernel
theorem dX11_init_88 : decode cX11_init 88 = .ok (.bipush 7, 2) := by decide +kernel
theorem dX11_init_90 : decode cX11_init 90 = .ok (.ldc 33, 2) := by decide +kernel
theorem dX11_init_92 : decode cX11_init 92 = .ok (.iastore, 1) := by decide +kernel
theorem dX11_init_93 : decode cX11_init 93 = .ok (.putfield 34, 3) := by decide +kernel
theorem dX11_init_96 : decode cX11_init 96 = .ok (.aload_n 0, 1) := by decide +kernel
theorem dX11_init_97 : decode cX11_init 97 = .ok (.bipush 64, 2) := by decide +kernel
theorem dX11_init_99 : decode cX11_init 99 = .ok (.newarray .int, 2) := by decide +kernel
theorem dX11_init_101 : decode cX11_init 101 = .ok (.dup, 1) := by decide +kernel
theorem dX11_init_102 : decode cX11_init 102 = .ok (.iconst 0, 1) := by decide +kernel
theorem dX11_init_103 : decode cX11_init 103 = .ok (.ldc 37, 2) := by decide +kernel
theorem dX11_init_105 : decode cX11_init 105 = .ok (.iastore, 1) := by decide +kernel
theorem dX11_init_106 : decode cX11_init 106 = .ok (.dup, 1) := by decide +kernel
theorem dX11_init_107 : decode cX11_init 107 = .ok (.iconst 1, 1) := by decide +kernel
theorem dX11_init_108 : decode cX11_init 108 = .ok (.ldc 38, 2) := by decide +kernel
theorem dX11_init_110 : decode cX11_init 110 = .ok (.iastore, 1) := by decide +kernel
theorem dX11_init_111 : decode cX11_init 111 = .ok (.dup, 1) := by decide +kernel
theorem dX11_init_112 : decode cX11_init 112 = .ok (.iconst 2, 1) := by decide +kernel
theorem dX11_init_113 : decode cX11_init 113 = .ok (.ldc 39, 2) := by decide +kernel
theorem dX11_init_115 : decode cX11_init 115 = .ok (.iastore, 1) := by decide +kernel
theorem dX11_init_116 : decode cX11_init 116 = .ok (.dup, 1) := by decide +kernel
theorem dX11_init_117 : decode cX11_init 117 = .ok (.iconst 3, 1) := by decide +kernel
theorem dX11_init_118 : decode cX11_init 118 = .ok (.ldc 40, 2) := by decide +kernel
theorem dX11_init_120 : decode cX11_init 120 = .ok (.iastore, 1) := by decide +kernel
theorem dX11_init_121 : decode cX11_init 121 = .ok (.dup, 1) := by decide +kernel
theorem dX11_init_122 : decode cX11_init 122 = .ok (.iconst 4, 1) := by decide +kernel
theorem dX11_init_123 : decode cX11_init 123 = .ok (.ldc 41, 2) := by decide +kernel
theorem dX11_init_125 : decode cX11_init 125 = .ok (.iastore, 1) := by decide +kernel
theorem dX11_init_126 : decode cX11_init 126 = .ok (.dup, 1) := by decide +kernel
theorem dX11_init_127 : decode cX11_init 127 = .ok (.iconst 5, 1) := by decide +kernel
theorem dX11_init_128 : decode cX11_init 128 = .ok (.ldc 42, 2) := by decide +kernel
theorem dX11_init_130 : decode cX11_init 130 = .ok (.iastore, 1) := by decide +kernel
theorem dX11_init_131 : decode cX11_init 131 = .ok (.dup, 1) := by decide +kernel
theorem dX11_init_132 : decode cX11_init 132 = .ok (.bipush 6, 2) := by decide +kernel
theorem dX11_init_134 : decode cX11_init 134 = .ok (.ldc 43, 2) := by decide +kernel
theorem dX11_init_136 : decode cX11_init 136 = .ok (.iastore, 1) := by decide +kernel
theorem dX11_init_137 : decode cX11_init 137 = .ok (.dup, 1) := by decide +kernel
theorem dX11_init_138 : decode cX11_init 138 = .ok (.bipush 7, 2) := by decide +kernel
theorem dX11_init_140 : decode cX11_init 140 = .ok (.ldc 44, 2) := by decide +kernel
theorem dX11_init_142 : decode cX11_init 142 = .ok (.iastore, 1) := by decide +kernel
theorem dX11_init_143 : decode cX11_init 143 = .ok (.dup, 1) := by decide +kernel
theorem dX11_init_144 : decode cX11_init 144 = .ok (.bipush 8, 2) := by decide +kernel
theorem dX11_init_146 : decode cX11_init 146 = .ok (.ldc 45, 2) := by decide +kernel
theorem dX11_init_148 : decode cX11_init 148 = .ok (.iastore, 1) := by decide +kernel
theorem dX11_init_149 : decode cX11_init 149 = .ok (.dup, 1) := by decide +kernel
theorem dX11_init_150 : decode cX11_init 150 = .ok (.bipush 9, 2) := by decide +kernel
theorem dX11_init_152 : decode cX11_init 152 = .ok (.ldc 46, 2) := by decide +kernel
theorem dX11_init_154 : decode cX11_init 154 = .ok (.iastore, 1) := by decide +kernel
theorem dX11_init_155 : decode cX11_init 155 = .ok (.dup, 1) := by decide +kernel
theorem dX11_init_156 : decode cX11_init 156 = .ok (.bipush 10, 2) := by decide +kernel
theorem dX11_init_158 : decode cX11_init 158 = .ok (.ldc 47, 2) := by decide +kernel
theorem dX11_init_160 : decode cX11_init 160 = .ok (.iastore, 1) := by decide +kernel
theorem dX11_init_161 : decode cX11_init 161 = .ok (.dup, 1) := by decide +kernel
theorem dX11_init_162 : decode cX11_init 162 = .ok (.bipush 11, 2) := by decide +kernel
theorem dX11_init_164 : decode cX11_init 164 = .ok (.ldc 48, 2) := by decide +kernel
theorem dX11_init_166 : decode cX11_init 166 = .ok (.iastore, 1) := by decide +kernel
theorem dX11_init_167 : decode cX11_init 167 = .ok (.dup, 1) := by decide +kernel
theorem dX11_init_168 : decode cX11_init 168 = .ok (.bipush 12, 2) := by decide +kernel
theorem dX11_init_170 : decode cX11_init 170 = .ok (.ldc 49, 2) := by decide +kernel
theorem dX11_init_172 : decode cX11_init 172 = .ok (.iastore, 1) := by decide +kernel
theorem dX11_init_173 : decode cX11_init 173 = .ok (.dup, 1) := by decide +kernel
theorem dX11_init_174 : decode cX11_init 174 = .ok (.bipush 13, 2) := by decide +kernel
theorem dX11_init_176 : decode cX11_init 176 = .ok (.ldc 50, 2) := by decide +kernel
theorem dX11_init_178 : decode cX11_init 178 = .ok (.iastore, 1) := by decide +kernel
theorem dX11_init_179 : decode cX11_init 179 = .ok (.dup, 1) := by decide +kernel
theorem dX11_init_180 : decode cX11_init 180 = .ok (.bipush 14, 2) := by decide +kernel
theorem dX11_init_182 : decode cX11_init 182 = .ok (.ldc 51, 2) := by decide +kernel
theorem dX11_init_184 : decode cX11_init 184 = .ok (.iastore, 1) := by decide +kernel
theorem dX11_init_185 : decode cX11_init 185 = .ok (.dup, 1) := by decide +kernel
theorem dX11_init_186 : decode cX11_init 186 = .ok (.bipush 15, 2) := by decide +kernel
theorem dX11_init_188 : decode cX11_init 188 = .ok (.ldc 52, 2) := by decide +kernel
theorem dX11_init_190 : decode cX11_init 190 = .ok (.iastore, 1) := by decide +kernel
theorem dX11_init_191 : decode cX11_init 191 = .ok (.dup, 1) := by decide +kernel
theorem dX11_init_192 : decode cX11_init 192 = .ok (.bipush 16, 2) := by decide +kernel
theorem dX11_init_194 : decode cX11_init 194 = .ok (.ldc 53, 2) := by decide +kernel
theorem dX11_init_196 : decode cX11_init 196 = .ok (.iastore, 1) := by decide +kernel
theorem dX11_init_197 : decode cX11_init 197 = .ok (.dup, 1) := by decide +kernel
theorem dX11_init_198 : decode cX11_init 198 = .ok (.bipush 17, 2) := by decide +kernel
theorem dX11_init_200 : decode cX11_init 200 = .ok (.ldc 54, 2) := by decide +kernel
theorem dX11_init_202 : decode cX11_init 202 = .ok (.iastore, 1) := by decide +kernel
theorem dX11_init_203 : decode cX11_init 203 = .ok (.dup, 1) := by decide +kernel
theorem dX11_init_204 : decode cX11_init 204 = .ok (.bipush 18, 2) := by decide +kernel
theorem dX11_init_206 : decode cX11_init 206 = .ok (.ldc 55, 2) := by decide +kernel
theorem dX11_init_208 : decode cX11_init 208 = .ok (.iastore, 1) := by decide +kernel
theorem dX11_init_209 : decode cX11_init 209 = .ok (.dup, 1) := by decide +kernel
theorem dX11_init_210 : decode cX11_init 210 = .ok (.bipush 19, 2) := by decide +kernel
theorem dX11_init_212 : decode cX11_init 212 = .ok (.ldc 56, 2) := by decide +kernel
theorem dX11_init_214 : decode cX11_init 214 = .ok (.iastore, 1) := by decide +kernel
theorem dX11_init_215 : decode cX11_init 215 = .ok (.dup, 1) := by decide +kernel
theorem dX11_init_216 : decode cX11_init 216 = .ok (.bipush 20, 2) := by decide +kernel
theorem dX11_init_218 : decode cX11_init 218 = .ok (.ldc 57, 2) := by decide +kernel
theorem dX11_init_220 : decode cX11_init 220 = .ok (.iastore, 1) := by decide +kernel
theorem dX11_init_221 : decode cX11_init 221 = .ok (.dup, 1) := by decide +kernel
theorem dX11_init_222 : decode cX11_init 222 = .ok (.bipush 21, 2) := by decide +kernel
theorem dX11_init_224 : decode cX11_init 224 = .ok (.ldc 58, 2) := by decide +kernel
theorem dX11_init_226 : decode cX11_init 226 = .ok (.iastore, 1) := by decide +kernel
theorem dX11_init_227 : decode cX11_init 227 = .ok (.dup, 1) := by decide +kernel
theorem dX11_init_228 : decode cX11_init 228 = .ok (.bipush 22, 2) := by decide +kernel
theorem dX11_init_230 : decode cX11_init 230 = .ok (.ldc 59, 2) := by decide +kernel
theorem dX11_init_232 : decode cX11_init 232 = .ok (.iastore, 1) := by decide +kernel
theorem dX11_init_233 : decode cX11_init 233 = .ok (.dup, 1) := by decide +kernel
theorem dX11_init_234 : decode cX11_init 234 = .ok (.bipush 23, 2) := by decide +kernel
theorem dX11_init_236 : decode cX11_init 236 = .ok (.ldc 60, 2) := by decide +kernel
theorem dX11_init_238 : decode cX11_init 238 = .ok (.iastore, 1) := by decide +kernel
theorem dX11_init_239 : decode cX11_init 239 = .ok (.dup, 1) := by decide +kernel
theorem dX11_init_240 : decode cX11_init 240 = .ok (.bipush 24, 2) := by decide +kernel
theorem dX11_init_242 : decode cX11_init 242 = .ok (.ldc 61, 2) := by decide +kernel
theorem dX11_init_244 : decode cX11_init 244 = .ok (.iastore, 1) := by decide +kernel
theorem dX11_init_245 : decode cX11_init 245 = .ok (.dup, 1) := by decide +kernel
theorem dX11_init_246 : decode cX11_init 246 = .ok (.bipush 25, 2) := by decide +kernel
theorem dX11_init_248 : decode cX11_init 248 = .ok (.ldc 62, 2) := by decide +kernel
theorem dX11_init_250 : decode cX11_init 250 = .ok (.iastore, 1) := by decide +kernel
theorem dX11_init_251 : decode cX11_init 251 = .ok (.dup, 1) := by decide +kernel
theorem dX11_init_252 : decode cX11_init 252 = .ok (.bipush 26, 2) := by decide +kernel
theorem dX11_init_254 : decode cX11_init 254 = .ok (.ldc 63, 2) := by decide +kernel
theorem dX11_init_256 : decode cX11_init 256 = .ok (.iastore, 1) := by decide +kernel
theorem dX11_init_257 : decode cX11_init 257 = .ok (.dup, 1) := by decide +kernel
theorem dX11_init_258 : decode cX11_init 258 = .ok (.bipush 27, 2) := by decide +kernel
theorem dX11_init_260 : decode cX11_init 260 = .ok (.ldc 64, 2) := by decide +kernel
theorem dX11_init_262 : decode cX11_init 262 = .ok (.iastore, 1) := by decide +kernel
theorem dX11_init_263 : decode cX11_init 263 = .ok (.dup, 1) := by decide +kernel
theorem dX11_init_264 : decode cX11_init 264 = .ok (.bipush 28, 2) := by decide +kernel
theorem dX11_init_266 : decode cX11_init 266 = .ok (.ldc 65, 2) := by decide +kernel
theorem dX11_init_268 : decode cX11_init 268 = .ok (.iastore, 1) := by decide +kernel
theorem dX11_init_269 : decode cX11_init 269 = .ok (.dup, 1) := by decide +kernel
theorem dX11_init_270 : decode cX11_init 270 = .ok (.bipush 29, 2) := by decide +kernel
theorem dX11_init_272 : decode cX11_init 272 = .ok (.ldc 66, 2) := by decide +kernel
theorem dX11_init_274 : decode cX11_init 274 = .ok (.iastore, 1) := by decide +kernel
theorem dX11_init_275 : decode cX11_init 275 = .ok (.dup, 1) := by decide +kernel
theorem dX11_init_276 : decode cX11_init 276 = .ok (.bipush 30, 2) := by decide +kernel
theorem dX11_init_278 : decode cX11_init 278 = .ok (.ldc 67, 2) := by decide +kernel
theorem dX11_init_280 : decode cX11_init 280 = .ok (.iastore, 1) := by decide +kernel
theorem dX11_init_281 : decode cX11_init 281 = .ok (.dup, 1) := by decide +kernel
theorem dX11_init_282 : decode cX11_init 282 = .ok (.bipush 31, 2) := by decide +kernel
theorem dX11_init_284 : decode cX11_init 284 = .ok (.ldc 68, 2) := by decide +kernel
theorem dX11_init_286 : decode cX11_init 286 = .ok (.iastore, 1) := by decide +kernel
theorem dX11_init_287 : decode cX11_init 287 = .ok (.dup, 1) := by decide +kernel
theorem dX11_init_288 : decode cX11_init 288 = .ok (.bipush 32, 2) := by decide +kernel
theorem dX11_init_290 : decode cX11_init 290 = .ok (.ldc 69, 2) := by decide +kernel
theorem dX11_init_292 : decode cX11_init 292 = .ok (.iastore, 1) := by decide +kernel
theorem dX11_init_293 : decode cX11_init 293 = .ok (.dup, 1) := by decide +kernel
theorem dX11_init_294 : decode cX11_init 294 = .ok (.bipush 33, 2) := by decide +kernel
theorem dX11_init_296 : decode cX11_init 296 = .ok (.ldc 70, 2) := by decide +kernel
theorem dX11_init_298 : decode cX11_init 298 = .ok (.iastore, 1) := by decide +kernel
theorem dX11_init_299 : decode cX11_init 299 = .ok (.dup, 1) := by decide +kernel
theorem dX11_init_300 : decode cX11_init 300 = .ok (.bipush 34, 2) := by decide +kernel
theorem dX11_init_302 : decode cX11_init 302 = .ok (.ldc 71, 2) := by decide +kernel
theorem dX11_init_304 : decode cX11_init 304 = .ok (.iastore, 1) := by decide +kernel
theorem dX11_init_305 : decode cX11_init 305 = .ok (.dup, 1) := by decide +kernel
theorem dX11_init_306 : decode cX11_init 306 = .ok (.bipush 35, 2) := by decide +kernel
theorem dX11_init_308 : decode cX11_init 308 = .ok (.ldc 72, 2) := by decide +kernel
theorem dX11_init_310 : decode cX11_init 310 = .ok (.iastore, 1) := by decide +kernel
theorem dX11_init_311 : decode cX11_init 311 = .ok (.dup, 1) := by decide +kernel
theorem dX11_init_312 : decode cX11_init 312 = .ok (.bipush 36, 2) := by decide +kernel
theorem dX11_init_314 : decode cX11_init 314 = .ok (.ldc 73, 2) := by decide +kernel
theorem dX11_init_316 : decode cX11_init 316 = .ok (.iastore, 1) := by decide +kernel
theorem dX11_init_317 : decode cX11_init 317 = .ok (.dup, 1) := by decide +kernel
theorem dX11_init_318 : decode cX11_init 318 = .ok (.bipush 37, 2) := by decide +kernel
theorem dX11_init_320 : decode cX11_init 320 = .ok (.ldc 74, 2) := by decide +kernel
theorem dX11_init_322 : decode cX11_init 322 = .ok (.iastore, 1) := by decide +kernel
theorem dX11_init_323 : decode cX11_init 323 = .ok (.dup, 1) := by decide +kernel
theorem dX11_init_324 : decode cX11_init 324 = .ok (.bipush 38, 2) := by decide +kernel
theorem dX11_init_326 : decode cX11_init 326 = .ok (.ldc 75, 2) := by decide +kernel
theorem dX11_init_328 : decode cX11_init 328 = .ok (.iastore, 1) := by decide +kernel
theorem dX11_init_329 : decode cX11_init 329 = .ok (.dup, 1) := by decide +kernel
theorem dX11_init_330 : decode cX11_init 330 = .ok (.bipush 39, 2) := by decide +kernel
theorem dX11_init_332 : decode cX11_init 332 = .ok (.ldc 76, 2) := by decide +kernel
theorem dX11_init_334 : decode cX11_init 334 = .ok (.iastore, 1) := by decide +kernel
theorem dX11_init_335 : decode cX11_init 335 = .ok (.dup, 1) := by decide +kernel
theorem dX11_init_336 : decode cX11_init 336 = .ok (.bipush 40, 2) := by decide +kernel
theorem dX11_init_338 : decode cX11_init 338 = .ok (.ldc 77, 2) := by decide +kernel
theorem dX11_init_340 : decode cX11_init 340 = .ok (.iastore, 1) := by decide +kernel
theorem dX11_init_341 : decode cX11_init 341 = .ok (.dup, 1) := by decide +kernel
theorem dX11_init_342 : decode cX11_init 342 = .ok (.bipush 41, 2) := by decide +kernel
theorem dX11_init_344 : decode cX11_init 344 = .ok (.ldc 78, 2) := by decide +kernel
theorem dX11_init_346 : decode cX11_init 346 = .ok (.iastore, 1) := by decide +kernel
theorem dX11_init_347 : decode cX11_init 347 = .ok (.dup, 1) := by decide +kernel
theorem dX11_init_348 : decode cX11_init 348 = .ok (.bipush 42, 2) := by decide +kernel
theorem dX11_init_350 : decode cX11_init 350 = .ok (.ldc 79, 2) := by decide +kernel
theorem dX11_init_352 : decode cX11_init 352 = .ok (.iastore, 1) := by decide +kernel
theorem dX11_init_353 : decode cX11_init 353 = .ok (.dup, 1) := by decide +kernel
theorem dX11_init_354 : decode cX11_init 354 = .ok (.bipush 43, 2) := by decide +kernel
theorem dX11_init_356 : decode cX11_init 356 = .ok (.ldc 80, 2) := by decide +kernel
theorem dX11_init_358 : decode cX11_init 358 = .ok (.iastore, 1) := by decide +kernel
theorem dX11_init_359 : decode cX11_init 359 = .ok (.dup, 1) := by decide +kernel
theorem dX11_init_360 : decode cX11_init 360 = .ok (.bipush 44, 2) := by decide +kernel
theorem dX11_init_362 : decode cX11_init 362 = .ok (.ldc 81, 2) := by decide +kernel
theorem dX11_init_364 : decode cX11_init 364 = .ok (.iastore, 1) := by decide +kernel
theorem dX11_init_365 : decode cX11_init 365 = .ok (.dup, 1) := by decide +kernel
theorem dX11_init_366 : decode cX11_init 366 = .ok (.bipush 45, 2) := by decide +kernel
theorem dX11_init_368 : decode cX11_init 368 = .ok (.ldc 82, 2) := by decide +kernel
theorem dX11_init_370 : decode cX11_init 370 = .ok (.iastore, 1) := by decide +kernel
theorem dX11_init_371 : decode cX11_init 371 = .ok (.dup, 1) := by decide +kernel
theorem dX11_init_372 : decode cX11_init 372 = .ok (.bipush 46, 2) := by decide +kernel
theorem dX11_init_374 : decode cX11_init 374 = .ok (.ldc 83, 2) := by decide +kernel
theorem dX11_init_376 : decode cX11_init 376 = .ok (.iastore, 1) := by decide +kernel
theorem dX11_init_377 : decode cX11_init 377 = .ok (.dup, 1) := by decide +kernel
theorem dX11_init_378 : decode cX11_init 378 = .ok (.bipush 47, 2) := by decide +kernel
theorem dX11_init_380 : decode cX11_init 380 = .ok (.ldc 84, 2) := by decide +kernel
theorem dX11_init_382 : decode cX11_init 382 = .ok (.iastore, 1) := by decide +kernel
theorem dX11_init_383 : decode cX11_init 383 = .ok (.dup, 1) := by decide +kernel
theorem dX11_init_384 : decode cX11_init 384 = .ok (.bipush 48, 2) := by decide +kernel
theorem dX11_init_386 : decode cX11_init 386 = .ok (.ldc 85, 2) := by decide +kernel
theorem dX11_init_388 : decode cX11_init 388 = .ok (.iastore, 1) := by decide +kernel
theorem dX11_init_389 : decode cX11_init 389 = .ok (.dup, 1) := by decide +kernel
theorem dX11_init_390 : decode cX11_init 390 = .ok (.bipush 49, 2) := by decide +kernel
theorem dX11_init_392 : decode cX11_init 392 = .ok (.ldc 86, 2) := by decide +kernel
theorem dX11_init_394 : decode cX11_init 394 = .ok (.iastore, 1) := by decide +kernel
theorem dX11_init_395 : decode cX11_init 395 = .ok (.dup, 1) := by decide +kernel
theorem dX11_init_396 : decode cX11_init 396 = .ok (.bipush 50, 2) := by decide +kernel
theorem dX11_init_398 : decode cX11_init 398 = .ok (.ldc 87, 2) := by decide +kernel
theorem dX11_init_400 : decode cX11_init 400 = .ok (.iastore, 1) := by decide +kernel
theorem dX11_init_401 : decode cX11_init 401 = .ok (.dup, 1) := by decide +kernel
theorem dX11_init_402 : decode cX11_init 402 = .ok (.bipush 51, 2) := by decide +kernel
theorem dX11_init_404 : decode cX11_init 404 = .ok (.ldc 88, 2) := by decide +kernel
theorem dX11_init_406 : decode cX11_init 406 = .ok (.iastore, 1) := by decide +kernel
theorem dX11_init_407 : decode cX11_init 407 = .ok (.dup, 1) := by decide +kernel
theorem dX11_init_408 : decode cX11_init 408 = .ok (.bipush 52, 2) := by decide +kernel
theorem dX11_init_410 : decode cX11_init 410 = .ok (.ldc 89, 2) := by decide +kernel
theorem dX11_init_412 : decode cX11_init 412 = .ok (.iastore, 1) := by decide +kernel
theorem dX11_init_413 : decode cX11_init 413 = .ok (.dup, 1) := by decide +kernel
theorem dX11_init_414 : decode cX11_init 414 = .ok (.bipush 53, 2) := by decide +kernel
theorem dX11_init_416 : decode cX11_init 416 = .ok (.ldc 90, 2) := by decide +kernel
theorem dX11_init_418 : decode cX11_init 418 = .ok (.iastore, 1) := by decide +kernel
theorem dX11_init_419 : decode cX11_init 419 = .ok (.dup, 1) := by decide +kernel
theorem dX11_init_420 : decode cX11_init 420 = .ok (.bipush 54, 2) := by decide +kernel
theorem dX11_init_422 : decode cX11_init 422 = .ok (.ldc 91, 2) := by decide +kernel
theorem dX11_init_424 : decode cX11_init 424 = .ok (.iastore, 1) := by decide +kernel
theorem dX11_init_425 : decode cX11_init 425 = .ok (.dup, 1) := by decide +kernel
theorem dX11_init_426 : decode cX11_init 426 = .ok (.bipush 55, 2) := by decide +kernel
theorem dX11_init_428 : decode cX11_init 428 = .ok (.ldc 92, 2) := by decide +kernel
theorem dX11_init_430 : decode cX11_init 430 = .ok (.iastore, 1) := by decide +kernel
theorem dX11_init_431 : decode cX11_init 431 = .ok (.dup, 1) := by decide +kernel
theorem dX11_init_432 : decode cX11_init 432 = .ok (.bipush 56, 2) := by decide +kernel
theorem dX11_init_434 : decode cX11_init 434 = .ok (.ldc 93, 2) := by decide +kernel
theorem dX11_init_436 : decode cX11_init 436 = .ok (.iastore, 1) := by decide +kernel
theorem dX11_init_437 : decode cX11_init 437 = .ok (.dup, 1) := by decide +kernel
theorem dX11_init_438 : decode cX11_init 438 = .ok (.bipush 57, 2) := by decide +kernel
theorem dX11_init_440 : decode cX11_init 440 = .ok (.ldc 94, 2) := by decide +kernel
theorem dX11_init_442 : decode cX11_init 442 = .ok (.iastore, 1) := by decide +kernel
theorem dX11_init_443 : decode cX11_init 443 = .ok (.dup, 1) := by decide +kernel
theorem dX11_init_444 : decode cX11_init 444 = .ok (.bipush 58, 2) := by decide +kernel
theorem dX11_init_446 : decode cX11_init 446 = .ok (.ldc 95, 2) := by decide +kernel
theorem dX11_init_448 : decode cX11_init 448 = .ok (.iastore, 1) := by decide +kernel
theorem dX11_init_449 : decode cX11_init 449 = .ok (.dup, 1) := by decide +kernel
theorem dX11_init_450 : decode cX11_init 450 = .ok (.bipush 59, 2) := by decide +kernel
theorem dX11_init_452 : decode cX11_init 452 = .ok (.ldc 96, 2) := by decide +kernel
theorem dX11_init_454 : decode cX11_init 454 = .ok (.iastore, 1) := by decide +kernel
theorem dX11_init_455 : decode cX11_init 455 = .ok (.dup, 1) := by decide +kernel
theorem dX11_init_456 : decode cX11_init 456 = .ok (.bipush 60, 2) := by decide +kernel
theorem dX11_init_458 : decode cX11_init 458 = .ok (.ldc 97, 2) := by decide +kernel
theorem dX11_init_460 : decode cX11_init 460 = .ok (.iastore, 1) := by decide +kernel
theorem dX11_init_461 : decode cX11_init 461 = .ok (.dup, 1) := by decide +kernel
theorem dX11_init_462 : decode cX11_init 462 = .ok (.bipush 61, 2) := by decide +kernel
theorem dX11_init_464 : decode cX11_init 464 = .ok (.ldc 98, 2) := by decide +kernel
theorem dX11_init_466 : decode cX11_init 466 = .ok (.iastore, 1) := by decide +kernel
theorem dX11_init_467 : decode cX11_init 467 = .ok (.dup, 1) := by decide +kernel
theorem dX11_init_468 : decode cX11_init 468 = .ok (.bipush 62, 2) := by decide +kernel
theorem dX11_init_470 : decode cX11_init 470 = .ok (.ldc 99, 2) := by decide +kernel
theorem dX11_init_472 : decode cX11_init 472 = .ok (.iastore, 1) := by decide +kernel
theorem dX11_init_473 : decode cX11_init 473 = .ok (.dup, 1) := by decide +kernel
theorem dX11_init_474 : decode cX11_init 474 = .ok (.bipush 63, 2) := by decide +kernel
theorem dX11_init_476 : decode cX11_init 476 = .ok (.ldc 100, 2) := by decide +kernel
theorem dX11_init_478 : decode cX11_init 478 = .ok (.iastore, 1) := by decide +kernel
theorem dX11_init_479 : decode cX11_init 479 = .ok (.putfield 101, 3) := by decide +kernel
theorem dX11_init_482 : decode cX11_init 482 = .ok (.aload_n 0, 1) := by decide +kernel
theorem dX11_init_483 : decode cX11_init 483 = .ok (.bipush 25, 2) := by decide +kernel
theorem dX11_init_485 : decode cX11_init 485 = .ok (.newarray .long, 2) := by decide +kernel
theorem dX11_init_487 : decode cX11_init 487 = .ok (.putfield 104, 3) := by decide +kernel
theorem dX11_init_490 : decode cX11_init 490 = .ok (.aload_n 0, 1) := by decide +kernel
theorem dX11_init_491 : decode cX11_init 491 = .ok (.bipush 25, 2) := by decide +kernel
theorem dX11_init_493 : decode cX11_init 493 = .ok (.newarray .long, 2) := by decide +kernel
theorem dX11_init_495 : decode cX11_init 495 = .ok (.putfield 108, 3) := by decide +kernel
theorem dX11_init_498 : decode cX11_init 498 = .ok (.aload_n 0, 1) := by decide +kernel
theorem dX11_init_499 : decode cX11_init 499 = .ok (.iconst 5, 1) := by decide +kernel
theorem dX11_init_500 : decode cX11_init 500 = .ok (.newarray .long, 2) := by decide +kernel
theorem dX11_init_502 : decode cX11_init 502 = .ok (.putfield 111, 3) := by decide +kernel
theorem dX11_init_505 : decode cX11_init 505 = .ok (.aload_n 0, 1) := by decide +kernel
theorem dX11_init_506 : decode cX11_init 506 = .ok (.bipush 25, 2) := by decide +kernel
theorem dX11_init_508 : decode cX11_init 508 = .ok (.newarray .int, 2) := by decide +kernel
theorem dX11_init_510 : decode cX11_init 510 = .ok (.putfield 114, 3) := by decide +kernel
theorem dX11_init_513 : decode cX11_init 513 = .ok (.aload_n 0, 1) := by decide +kernel
theorem dX11_init_514 : decode cX11_init 514 = .ok (.bipush 32, 2) := by decide +kernel
theorem dX11_init_516 : decode cX11_init 516 = .ok (.newarray .byte, 2) := by decide +kernel
theorem dX11_init_518 : decode cX11_init 518 = .ok (.putfield 117, 3) := by decide +kernel
theorem dX11_init_521 : decode cX11_init 521 = .ok (.aload_n 0, 1) := by decide +kernel
theorem dX11_init_522 : decode cX11_init 522 = .ok (.bipush 48, 2) := by decide +kernel
theorem dX11_init_524 : decode cX11_init 524 = .ok (.newarray .byte, 2) := by decide +kernel
theorem dX11_init_526 : decode cX11_init 526 = .ok (.putfield 120, 3) := by decide +kernel
theorem dX11_init_529 : decode cX11_init 529 = .ok (.aload_n 0, 1) := by decide +kernel
theorem dX11_init_530 : decode cX11_init 530 = .ok (.bipush 40, 2) := by decide +kernel
theorem dX11_init_532 : decode cX11_init 532 = .ok (.newarray .int, 2) := by decide +kernel
theorem dX11_init_534 : decode cX11_init 534 = .ok (.putfield 123, 3) := by decide +kernel
theorem dX11_init_537 : decode cX11_init 537 = .ok (.aload_n 0, 1) := by decide +kernel
theorem dX11_init_538 : decode cX11_init 538 = .ok (.sipush 560, 3) := by decide +kernel
theorem dX11_init_541 : decode cX11_init 541 = .ok (.newarray .byte, 2) := by decide +kernel
theorem dX11_init_543 : decode cX11_init 543 = .ok (.putfield 126, 3) := by decide +kernel
theorem dX11_init_546 : decode cX11_init 546 = .ok (.aload_n 0, 1) := by decide +kernel
theorem dX11_init_547 : decode cX11_init 547 = .ok (.bipush 112, 2) := by decide +kernel
theorem dX11_init_549 : decode cX11_init 549 = .ok (.newarray .byte, 2) := by decide +kernel
theorem dX11_init_551 : decode cX11_init 551 = .ok (.putfield 129, 3) := by decide +kernel
theorem dX11_init_554 : decode cX11_init 554 = .ok (.aload_n 0, 1) := by decide +kernel
theorem dX11_init_555 : decode cX11_init 555 = .ok (.bipush 16, 2) := by decide +kernel
theorem dX11_init_557 : decode cX11_init 557 = .ok (.newarray .byte, 2) := by decide +kernel
theorem dX11_init_559 : decode cX11_init 559 = .ok (.putfield 132, 3) := by decide +kernel
theorem dX11_init_562 : decode cX11_init 562 = .ok (.aload_n 0, 1) := by decide +kernel
theorem dX11_init_563 : decode cX11_init 563 = .ok (.sipush 496, 3) := by decide +kernel
theorem dX11_init_566 : decode cX11_init 566 = .ok (.newarray .byte, 2) := by decide +kernel
theorem dX11_init_568 : decode cX11_init 568 = .ok (.putfield 135, 3) := by decide +kernel
theorem dX11_init_571 : decode cX11_init 571 = .ok (.aload_n 0, 1) := by decide +kernel
theorem dX11_init_572 : decode cX11_init 572 = .ok (.bipush 32, 2) := by decide +kernel
theorem dX11_init_574 : decode cX11_init 574 = .ok (.newarray .byte, 2) := by decide +kernel
theorem dX11_init_576 : decode cX11_init 576 = .ok (.putfield 138, 3) := by decide +kernel
theorem dX11_init_579 : decode cX11_init 579 = .ok (.aload_n 0, 1) := by decide +kernel
theorem dX11_init_580 : decode cX11_init 580 = .ok (.bipush 16, 2) := by decide +kernel
theorem dX11_init_582 : decode cX11_init 582 = .ok (.newarray .byte, 2) := by decide +kernel
theorem dX11_init_584 : decode cX11_init 584 = .ok (.putfield 141, 3) := by decide +kernel
theorem dX11_init_587 : decode cX11_init 587 = .ok (.aload_n 0, 1) := by decide +kernel
theorem dX11_init_588 : decode cX11_init 588 = .ok (.bipush 16, 2) := by decide +kernel
theorem dX11_init_590 : decode cX11_init 590 = .ok (.newarray .byte, 2) := by decide +kernel
theorem dX11_init_592 : decode cX11_init 592 = .ok (.putfield 144, 3) := by decide +kernel
theorem dX11_init_595 : decode cX11_init 595 = .ok (.aload_n 0, 1) := by decide +kernel
theorem dX11_init_596 : decode cX11_init 596 = .ok (.bipush 8, 2) := by decide +kernel
theorem dX11_init_598 : decode cX11_init 598 = .ok (.newarray .int, 2) := by decide +kernel
theorem dX11_init_600 : decode cX11_init 600 = .ok (.putfield 147, 3) := by decide +kernel
theorem dX11_init_603 : decode cX11_init 603 = .ok (.aload_n 0, 1) := by decide +kernel
theorem dX11_init_604 : decode cX11_init 604 = .ok (.sipush 2000, 3) := by decide +kernel
theorem dX11_init_607 : decode cX11_init 607 = .ok (.newarray .byte, 2) := by decide +kernel
theorem dX11_init_609 : decode cX11_init 609 = .ok (.putfield 150, 3) := by decide +kernel
theorem dX11_init_612 : decode cX11_init 612 = .ok (.aload_n 0, 1) := by decide +kernel
theorem dX11_init_613 : decode cX11_init 613 = .ok (.bipush 96, 2) := by decide +kernel
theorem dX11_init_615 : decode cX11_init 615 = .ok (.newarray .byte, 2) := by decide +kernel
theorem dX11_init_617 : decode cX11_init 617 = .ok (.putfield 153, 3) := by decide +kernel
theorem dX11_init_620 : decode cX11_init 620 = .ok (.aload_n 0, 1) := by decide +kernel
theorem dX11_init_621 : decode cX11_init 621 = .ok (.bipush 16, 2) := by decide +kernel
theorem dX11_init_623 : decode cX11_init 623 = .ok (.newarray .byte, 2) := by decide +kernel
theorem dX11_init_625 : decode cX11_init 625 = .ok (.putfield 156, 3) := by decide +kernel
theorem dX11_init_628 : decode cX11_init 628 = .ok (.aload_n 0, 1) := by decide +kernel
theorem dX11_init_629 : decode cX11_init 629 = .ok (.bipush 16, 2) := by decide +kernel
theorem dX11_init_631 : decode cX11_init 631 = .ok (.newarray .byte, 2) := by decide +kernel
theorem dX11_init_633 : decode cX11_init 633 = .ok (.putfield 159, 3) := by decide +kernel
theorem dX11_init_636 : decode cX11_init 636 = .ok (.iconst 0, 1) := by decide +kernel
theorem dX11_init_637 : decode cX11_init 637 = .ok (.istore_n 1, 1) := by decide +kernel
theorem dX11_init_638 : decode cX11_init 638 = .ok (.iload_n 1, 1) := by decide +kernel
theorem dX11_init_639 : decode cX11_init 639 = .ok (.bipush 25, 2) := by decide +kernel
theorem dX11_init_641 : decode cX11_init 641 = .ok (.if_icmp .ge 16, 3) := by decide +kernel
theorem dX11_init_644 : decode cX11_init 644 = .ok (.aload_n 0, 1) := by decide +kernel
theorem dX11_init_645 : decode cX11_init 645 = .ok (.getfield 114, 3) := by decide +kernel
theorem dX11_init_648 : decode cX11_init 648 = .ok (.iload_n 1, 1) := by decide +kernel
theorem dX11_init_649 : decode cX11_init 649 = .ok (.iconst 0, 1) := by decide +kernel
theorem dX11_init_650 : decode cX11_init 650 = .ok (.iastore, 1) := by decide +kernel
theorem dX11_init_651 : decode cX11_init 651 = .ok (.iinc 1 1, 3) := by decide +kernel
theorem dX11_init_654 : decode cX11_init 654 = .ok (.goto (-16), 3) := by decide +kernel
theorem dX11_init_657 : decode cX11_init 657 = .ok (.iconst 1, 1) := by decide +kernel
theorem dX11_init_658 : decode cX11_init 658 = .ok (.istore_n 1, 1) := by decide +kernel
theorem dX11_init_659 : decode cX11_init 659 = .ok (.iconst 0, 1) := by decide +kernel
theorem dX11_init_660 : decode cX11_init 660 = .ok (.istore_n 2, 1) := by decide +kernel
theorem dX11_init_661 : decode cX11_init 661 = .ok (.iconst 0, 1) := by decide +kernel
theorem dX11_init_662 : decode cX11_init 662 = .ok (.istore_n 3, 1) := by decide +kernel
theorem dX11_init_663 : decode cX11_init 663 = .ok (.iload_n 3, 1) := by decide +kernel
theorem dX11_init_664 : decode cX11_init 664 = .ok (.bipush 24, 2) := by decide +kernel
theorem dX11_init_666 : decode cX11_init 666 = .ok (.if_icmp .ge 47, 3) := by decide +kernel
theorem dX11_init_669 : decode cX11_init 669 = .ok (.aload_n 0, 1) := by decide +kernel
theorem dX11_init_670 : decode cX11_init 670 = .ok (.getfield 114, 3) := by decide +kernel
theorem dX11_init_673 : decode cX11_init 673 = .ok (.iload_n 1, 1) := by decide +kernel
theorem dX11_init_674 : decode cX11_init 674 = .ok (.iconst 5, 1) := by decide +kernel
theorem dX11_init_675 : decode cX11_init 675 = .ok (.iload_n 2, 1) := by decide +kernel
theorem dX11_init_676 : decode cX11_init 676 = .ok (.imul, 1) := by decide +kernel
theorem dX11_init_677 : decode cX11_init 677 = .ok (.iadd, 1) := by decide +kernel
theorem dX11_init_678 : decode cX11_init 678 = .ok (.iload_n 3, 1) := by decide +kernel
theorem dX11_init_679 : decode cX11_init 679 = .ok (.iconst 1, 1) := by decide +kernel
theorem dX11_init_680 : decode cX11_init 680 = .ok (.iadd, 1) := by decide +kernel
theorem dX11_init_681 : decode cX11_init 681 = .ok (.iload_n 3, 1) := by decide +kernel
theorem dX11_init_682 : decode cX11_init 682 = .ok (.iconst 2, 1) := by decide +kernel
theorem dX11_init_683 : decode cX11_init 683 = .ok (.iadd, 1) := by decide +kernel
theorem dX11_init_684 : decode cX11_init 684 = .ok (.imul, 1) := by decide +kernel
theorem dX11_init_685 : decode cX11_init 685 = .ok (.iconst 2, 1) := by decide +kernel
theorem dX11_init_686 : decode cX11_init 686 = .ok (.idiv, 1) := by decide +kernel
theorem dX11_init_687 : decode cX11_init 687 = .ok (.bipush 64, 2) := by decide +kernel
theorem dX11_init_689 : decode cX11_init 689 = .ok (.irem, 1) := by decide +kernel
theorem dX11_init_690 : decode cX11_init 690 = .ok (.iastore, 1) := by decide +kernel
theorem dX11_init_691 : decode cX11_init 691 = .ok (.iconst 2, 1) := by decide +kernel
theorem dX11_init_692 : decode cX11_init 692 = .ok (.iload_n 1, 1) := by decide +kernel
theorem dX11_init_693 : decode cX11_init 693 = .ok (.imul, 1) := by decide +kernel
theorem dX11_init_694 : decode cX11_init 694 = .ok (.iconst 3, 1) := by decide +kernel
theorem dX11_init_695 : decode cX11_init 695 = .ok (.iload_n 2, 1) := by decide +kernel
theorem dX11_init_696 : decode cX11_init 696 = .ok (.imul, 1) := by decide +kernel
theorem dX11_init_697 : decode cX11_init 697 = .ok (.iadd, 1) := by decide +kernel
theorem dX11_init_698 : decode cX11_init 698 = .ok (.iconst 5, 1) := by decide +kernel
theorem dX11_init_699 : decode cX11_init 699 = .ok (.irem, 1) := by decide +kernel
theorem dX11_init_700 : decode cX11_init 700 = .ok (.istore 4, 2) := by decide +kernel
theorem dX11_init_702 : decode cX11_init 702 = .ok (.iload_n 2, 1) := by decide +kernel
theorem dX11_init_703 : decode cX11_init 703 = .ok (.istore_n 1, 1) := by decide +kernel
theorem dX11_init_704 : decode cX11_init 704 = .ok (.iload 4, 2) := by decide +kernel
theorem dX11_init_706 : decode cX11_init 706 = .ok (.istore_n 2, 1) := by decide +kernel
theorem dX11_init_707 : decode cX11_init 707 = .ok (.iinc 3 1, 3) := by decide +kernel
theorem dX11_init_710 : decode cX11_init 710 = .ok (.goto (-47), 3) := by decide +kernel
theorem dX11_init_713 : decode cX11_init 713 = .ok (.aload_n 0, 1) := by decide +kernel
theorem dX11_init_714 : decode cX11_init 714 = .ok (.iconst 0, 1) := by decide +kernel
theorem dX11_init_715 : decode cX11_init 715 = .ok (.putfield 162, 3) := by decide +kernel
theorem dX11_init_718 : decode cX11_init 718 = .ok (.aload_n 0, 1) := by decide +kernel
theorem dX11_init_719 : decode cX11_init 719 = .ok (.iconst 4, 1) := by decide +kernel
theorem dX11_init_720 : decode cX11_init 720 = .ok (.putfield 166, 3) := by decide +kernel
theorem dX11_init_723 : decode cX11_init 723 = .ok (.aload_n 0, 1) := by decide +kernel
theorem dX11_init_724 : decode cX11_init 724 = .ok (.iconst 1, 1) := by decide +kernel
theorem dX11_init_725 : decode cX11_init 725 = .ok (.putfield 169, 3) := by decide +kernel
theorem dX11_init_728 : decode cX11_init 728 = .ok (.aload_n 0, 1) := by decide +kernel
theorem dX11_init_729 : decode cX11_init 729 = .ok (.iconst 1, 1) := by decide +kernel
theorem dX11_init_730 : decode cX11_init 730 = .ok (.putfield 172, 3) := by decide +kernel
theorem dX11_init_733 : decode cX11_init 733 = .ok (.aload_n 0, 1) := by decide +kernel
theorem dX11_init_734 : decode cX11_init 734 = .ok (.iconst 1, 1) := by decide +kernel
theorem dX11_init_735 : decode cX11_init 735 = .ok (.putfield 175, 3) := by decide +kernel
theorem dX11_init_738 : decode cX11_init 738 = .ok (.aload_n 0, 1) := by decide +kernel
theorem dX11_init_739 : decode cX11_init 739 = .ok (.iconst 1, 1) := by decide +kernel
theorem dX11_init_740 : decode cX11_init 740 = .ok (.putfield 178, 3) := by decide +kernel
theorem dX11_init_743 : decode cX11_init 743 = .ok (.aload_n 0, 1) := by decide +kernel
theorem dX11_init_744 : decode cX11_init 744 = .ok (.invokevirtual 181, 3) := by decide +kernel
theorem dX11_init_747 : decode cX11_init 747 = .ok (.aload_n 0, 1) := by decide +kernel
theorem dX11_init_748 : decode cX11_init 748 = .ok (.iconst 0, 1) := by decide +kernel
theorem dX11_init_749 : decode cX11_init 749 = .ok (.putfield 184, 3) := by decide +kernel
theorem dX11_init_752 : decode cX11_init 752 = .ok (.iconst 0, 1) := by decide +kernel
theorem dX11_init_753 : decode cX11_init 753 = .ok (.istore_n 3, 1) := by decide +kernel
theorem dX11_init_754 : decode cX11_init 754 = .ok (.iload_n 3, 1) := by decide +kernel
theorem dX11_init_755 : decode cX11_init 755 = .ok (.bipush 8, 2) := by decide +kernel
theorem dX11_init_757 : decode cX11_init 757 = .ok (.if_icmp .ge 17, 3) := by decide +kernel
theorem dX11_init_760 : decode cX11_init 760 = .ok (.aload_n 0, 1) := by decide +kernel
theorem dX11_init_761 : decode cX11_init 761 = .ok (.getfield 147, 3) := by decide +kernel
theorem dX11_init_764 : decode cX11_init 764 = .ok (.iload_n 3, 1) := by decide +kernel
theorem dX11_init_765 : decode cX11_init 765 = .ok (.bipush (-9), 2) := by decide +kernel
theorem dX11_init_767 : decode cX11_init 767 = .ok (.iastore, 1) := by decide +kernel
theorem dX11_init_768 : decode cX11_init 768 = .ok (.iinc 3 1, 3) := by decide +kernel
theorem dX11_init_771 : decode cX11_init 771 = .ok (.goto (-17), 3) := by decide +kernel
theorem dX11_init_774 : decode cX11_init 774 = .ok (.return_, 1) := by decide +kernel
set_option maxHeartbeats 4000000 in
set_option maxRecDepth 100000 in
/-- new HashSignerModel -/
theorem i_Model (l : Launch) (g : jG) (h : Nat)  : jN l g yX11_init wsX11_init ({ frames := 1, cells := 26, slots := 5760, locals := 20 } : Room) [.ref h] [oB h 11 [.null, .int (nI 0), .null, .int (nI 0), .null, .null, .null, .null, .null, .null, .null, .null, .null, .null, .int (nI 0), .int (nI 0), .int (nI 0), .int (nI 0), .int (nI 0), .int (nI 0), .int (nI 0), .int (nI 0), .int (nI 0), .null, .int (nI 0), .int (nI 0), .int (nI 0), .int (nI 0), .int (nI 0), .null, .null, .null, .null, .null, .null, .null, .null, .null, .null, .int (nI 0), .null, .null, .null]] (fun jj : (Nat → Nat) × (Nat → Int32) × (Nat → Int32) × (Nat → Int32) => jj.2.1 = (fun _ => 0) ∧ (∀ k, k < 25 → jj.2.2.1 k = s_turns.getD k 0) ∧ ∀ j, j < 8 → jj.2.2.2 j = -9) (fun jj : (Nat → Nat) × (Nat → Int32) × (Nat → Int32) × (Nat → Int32) => [oB h 11 (mO jj.1 (upd (upd (upd (upd (upd (upd (upd (upd (upd jj.2.1 15 (nI 0)) 16 (nI 4)) 17 (nI 1)) 18 (nI 1)) 19 (nI 1)) 20 (nI 1)) 21 (nI (ln 4))) 22 (nI (sgS 4 1 1 1 1))) 14 (nI 0))), bA g (jj.1 0) 600 (fun _ => 0), bA g (jj.1 2) 1400 (fun _ => 0), bA g (jj.1 4) 32 (fun _ => 0), iA g (jj.1 5) 64 (fun _ => 0), iA g (jj.1 6) 8 (fun _ => 0), iA g (jj.1 7) 8 (tk s_first 8), iA g (jj.1 8) 64 (tk s_cube 64), lA g (jj.1 9) 25 (fun _ => 0), lA g (jj.1 10) 25 (fun _ => 0), lA g (jj.1 11) 5 (fun _ => 0), iA g (jj.1 12) 25 jj.2.2.1, bA g (jj.1 13) 32 (fun _ => 0), bA g (jj.1 23) 48 (fun _ => 0), iA g (jj.1 29) 40 (fun _ => 0), bA g (jj.1 30) 560 (fun _ => 0), bA g (jj.1 31) 112 (fun _ => 0), bA g (jj.1 32) 16 (fun _ => 0), bA g (jj.1 33) 496 (fun _ => 0), bA g (jj.1 34) 32 (fun _ => 0), bA g (jj.1 35) 16 (fun _ => 0), bA g (jj.1 36) 16 (fun _ => 0), iA g (jj.1 37) 8 jj.2.2.2, bA g (jj.1 38) 2000 (fun _ => 0), bA g (jj.1 40) 96 (fun _ => 0), bA g (jj.1 41) 16 (fun _ => 0), bA g (jj.1 42) 16 (fun _ => 0)]) 26 5760 := by
  refine jN.of (cc := cX11_init) (own := RX11) (maxL := 5) (by decide +kernel) rfl rfl rfl (Nat.le_of_ble_eq_true rfl) ?_
  intro p e s m below meth c A Q hin hNW hX hret
  have in11 : ∀ w ∈ wsX110, w ∈ wsX11_init := (fun w h => List.mem_cons_of_mem _ (List.mem_append_right _ h))
  refine j_aload_n hX 0 dX11_init_0 rfl ?_
  refine j_objInit hX (List.mem_of_getElem? (i := 1) rfl) (List.mem_of_getElem? (i := 2) rfl) (List.mem_of_getElem? (i := 3) rfl) (Nat.le_of_ble_eq_true rfl) (Nat.le_of_ble_eq_true rfl) dX11_init_1 ?_
  refine j_aload_n hX 0 dX11_init_4 rfl ?_
  refine j_sipush hX (600) dX11_init_5 (by decide) ?_
  refine j_st [.int (nI 600), .ref h] rfl ?_
  refine j_newa hX (ty := .byte) (n := 600) (a0 := (600, .inl (fun _ => 0))) 0 rfl (fun _ _ => rfl) (List.mem_of_getElem? (i := 4) rfl) rfl (fun _ => rfl) (by decide) (by decide) (Nat.le_of_ble_eq_true rfl) (Nat.le_of_ble_eq_true rfl) dX11_init_8 (fun a_1 => ?_)
  refine j_w [oB h 11 [.null, .int (nI 0), .null, .int (nI 0), .null, .null, .null, .null, .null, .null, .null, .null, .null, .null, .int (nI 0), .int (nI 0), .int (nI 0), .int (nI 0), .int (nI 0), .int (nI 0), .int (nI 0), .int (nI 0), .int (nI 0), .null, .int (nI 0), .int (nI 0), .int (nI 0), .int (nI 0), .int (nI 0), .null, .null, .null, .null, .null, .null, .null, .null, .null, .null, .int (nI 0), .null, .null, .null], bA g a_1 600 (fun _ => 0)] rfl ?_
  refine j_putF hX hin (v := .ref a_1) in11 tyX11 tyX11_ok nmX11 11 0 0 rfl rfl (by decide) (List.mem_of_getElem? (i := 5) rfl) rfl rfl rfl rfl rfl rfl (Nat.le_of_ble_eq_true rfl) [oB h 11 [.ref a_1, .int (nI 0), .null, .int (nI 0), .null, .null, .null, .null, .null, .null, .null, .null, .null, .null, .int (nI 0), .int (nI 0), .int (nI 0), .int (nI 0), .int (nI 0), .int (nI 0), .int (nI 0), .int (nI 0), .int (nI 0), .null, .int (nI 0), .int (nI 0), .int (nI 0), .int (nI 0), .int (nI 0), .null, .null, .null, .null, .null, .null, .null, .null, .null, .null, .int (nI 0), .null, .null, .null], bA g a_1 600 (fun _ => 0)] rfl dX11_init_10 ?_
  refine j_aload_n hX 0 dX11_init_13 rfl ?_
  refine j_pc 14 rfl ?_
  refine j_sipush hX (1400) dX11_init_14 (by decide) ?_
  refine j_st [.int (nI 1400), .ref h] rfl ?_
  refine j_newa hX (ty := .byte) (n := 1400) (a0 := (1400, .inl (fun _ => 0))) 0 rfl (fun _ _ => rfl) (List.mem_of_getElem? (i := 4) rfl) rfl (fun _ => rfl) (by decide) (by decide) (Nat.le_of_ble_eq_true rfl) (Nat.le_of_ble_eq_true rfl) dX11_init_17 (fun a_2 => ?_)
  refine j_w [oB h 11 [.ref a_1, .int (nI 0), .null, .int (nI 0), .null, .null, .null, .null, .null, .null, .null, .null, .null, .null, .int (nI 0), .int (nI 0), .int (nI 0), .int (nI 0), .int (nI 0), .int (nI 0), .int (nI 0), .int (nI 0), .int (nI 0), .null, .int (nI 0), .int (nI 0), .int (nI 0), .int (nI 0), .int (nI 0), .null, .null, .null, .null, .null, .null, .null, .null, .null, .null, .int (nI 0), .null, .null, .null], bA g a_1 600 (fun _ => 0), bA g a_2 1400 (fun _ => 0)] rfl ?_
  refine j_putF hX hin (v := .ref a_2) in11 tyX11 tyX11_ok nmX11 11 0 2 rfl rfl (by decide) (List.mem_of_getElem? (i := 6) rfl) rfl rfl rfl rfl rfl rfl (Nat.le_of_ble_eq_true rfl) [oB h 11 [.ref a_1, .int (nI 0), .ref a_2, .int (nI 0), .null, .null, .null, .null, .null, .null, .null, .null, .null, .null, .int (nI 0), .int (nI 0), .int (nI 0), .int (nI 0), .int (nI 0), .int (nI 0), .int (nI 0), .int (nI 0), .int (nI 0), .null, .int (nI 0), .int (nI 0), .int (nI 0), .int (nI 0), .int (nI 0), .null, .null, .null, .null, .null, .null, .null, .null, .null, .null, .int (nI 0), .null, .null, .null], bA g a_1 600 (fun _ => 0), bA g a_2 1400 (fun _ => 0)] rfl dX11_init_19 ?_
  refine j_aload_n hX 0 dX11_init_22 rfl ?_
  refine j_bipush hX (32) dX11_init_23 (by decide) ?_
  refine j_st [.int (nI 32), .ref h] rfl ?_
  refine j_newa hX (ty := .byte) (n := 32) (a0 := (32, .inl (fun _ => 0))) 0 rfl (fun _ _ => rfl) (List.mem_of_getElem? (i := 4) rfl) rfl (fun _ => rfl) (by decide) (by decide) (Nat.le_of_ble_eq_true rfl) (Nat.le_of_ble_eq_true rfl) dX11_init_25 (fun a_3 => ?_)
  refine j_w [oB h 11 [.ref a_1, .int (nI 0), .ref a_2, .int (nI 0), .null, .null, .null, .null, .null, .null, .null, .null, .null, .null, .int (nI 0), .int (nI 0), .int (nI 0), .int (nI 0), .int (nI 0), .int (nI 0), .int (nI 0), .int (nI 0), .int (nI 0), .null, .int (nI 0), .int (nI 0), .int (nI 0), .int (nI 0), .int (nI 0), .null, .null, .null, .null, .null, .null, .null, .null, .null, .null, .int (nI 0), .null, .null, .null], bA g a_1 600 (fun _ => 0), bA g a_2 1400 (fun _ => 0), bA g a_3 32 (fun _ => 0)] rfl ?_
  refine j_putF hX hin (v := .ref a_3) in11 tyX11 tyX11_ok nmX11 11 0 4 rfl rfl (by decide) (List.mem_of_getElem? (i := 7) rfl) rfl rfl rfl rfl rfl rfl (Nat.le_of_ble_eq_true rfl) [oB h 11 [.ref a_1, .int (nI 0), .ref a_2, .int (nI 0), .ref a_3, .null, .null, .null, .null, .null, .null, .null, .null, .null, .int (nI 0), .int (nI 0), .int (nI 0), .int (nI 0), .int (nI 0), .int (nI 0), .int (nI 0), .int (nI 0), .int (nI 0), .null, .int (nI 0), .int (nI 0), .int (nI 0), .int (nI 0), .int (nI 0), .null, .null, .null, .null, .null, .null, .null, .null, .null, .null, .int (nI 0), .null, .null, .null], bA g a_1 600 (fun _ => 0), bA g a_2 1400 (fun _ => 0), bA g a_3 32 (fun _ => 0)] rfl dX11_init_27 ?_
  refine j_aload_n hX 0 dX11_init_30 rfl ?_
  refine j_pc 31 rfl ?_
  refine j_bipush hX (64) dX11_init_31 (by decide) ?_
  refine j_st [.int (nI 64), .ref h] rfl ?_
  refine j_newa hX (ty := .int) (n := 64) (a0 := (64, .inl (fun _ => 0))) 1 rfl (fun _ _ => rfl) (List.mem_of_getElem? (i := 8) rfl) rfl (fun _ => rfl) (by decide) (by decide) (Nat.le_of_ble_eq_true rfl) (Nat.le_of_ble_eq_true rfl) dX11_init_33 (fun a_4 => ?_)
  refine j_w [oB h 11 [.ref a_1, .int (nI 0), .ref a_2, .int (nI 0), .ref a_3, .null, .null, .null, .null, .null, .null, .null, .null, .null, .int (nI 0), .int (nI 0), .int (nI 0), .int (nI 0), .int (nI 0), .int (nI 0), .int (nI 0), .int (nI 0), .int (nI 0), .null, .int (nI 0), .int (nI 0), .int (nI 0), .int (nI 0), .int (nI 0), .null, .null, .null, .null, .null, .null, .null, .null, .null, .null, .int (nI 0), .null, .null, .null], bA g a_1 600 (fun _ => 0), bA g a_2 1400 (fun _ => 0), bA g a_3 32 (fun _ => 0), iA g a_4 64 (fun _ => 0)] rfl ?_
  refine j_putF hX hin (v := .ref a_4) in11 tyX11 tyX11_ok nmX11 11 0 5 rfl rfl (by decide) (List.mem_of_getElem? (i := 9) rfl) rfl rfl rfl rfl rfl rfl (Nat.le_of_ble_eq_true rfl) [oB h 11 [.ref a_1, .int (nI 0), .ref a_2, .int (nI 0), .ref a_3, .ref a_4, .null, .null, .null, .null, .null, .null, .null, .null, .int (nI 0), .int (nI 0), .int (nI 0), .int (nI 0), .int (nI 0), .int (nI 0), .int (nI 0), .int (nI 0), .int (nI 0), .null, .int (nI 0), .int (nI 0), .int (nI 0), .int (nI 0), .int (nI 0), .null, .null, .null, .null, .null, .null, .null, .null, .null, .null, .int (nI 0), .null, .null, .null], bA g a_1 600 (fun _ => 0), bA g a_2 1400 (fun _ => 0), bA g a_3 32 (fun _ => 0), iA g a_4 64 (fun _ => 0)] rfl dX11_init_35 ?_
  refine j_aload_n hX 0 dX11_init_38 rfl ?_
  refine j_bipush hX (8) dX11_init_39 (by decide) ?_
  refine j_st [.int (nI 8), .ref h] rfl ?_
  refine j_newa hX (ty := .int) (n := 8) (a0 := (8, .inl (fun _ => 0))) 1 rfl (fun _ _ => rfl) (List.mem_of_getElem? (i := 8) rfl) rfl (fun _ => rfl) (by decide) (by decide) (Nat.le_of_ble_eq_true rfl) (Nat.le_of_ble_eq_true rfl) dX11_init_41 (fun a_5 => ?_)
  refine j_w [oB h 11 [.ref a_1, .int (nI 0), .ref a_2, .int (nI 0), .ref a_3, .ref a_4, .null, .null, .null, .null, .null, .null, .null, .null, .int (nI 0), .int (nI 0), .int (nI 0), .int (nI 0), .int (nI 0), .int (nI 0), .int (nI 0), .int (nI 0), .int (nI 0), .null, .int (nI 0), .int (nI 0), .int (nI 0), .int (nI 0), .int (nI 0), .null, .null, .null, .null, .null, .null, .null, .null, .null, .null, .int (nI 0), .null, .null, .null], bA g a_1 600 (fun _ => 0), bA g a_2 1400 (fun _ => 0), bA g a_3 32 (fun _ => 0), iA g a_4 64 (fun _ => 0), iA g a_5 8 (fun _ => 0)] rfl ?_
  refine j_putF hX hin (v := .ref a_5) in11 tyX11 tyX11_ok nmX11 11 0 6 rfl rfl (by decide) (List.mem_of_getElem? (i := 10) rfl) rfl rfl rfl rfl rfl rfl (Nat.le_of_ble_eq_true rfl) [oB h 11 [.ref a_1, .int (nI 0), .ref a_2, .int (nI 0), .ref a_3, .ref a_4, .ref a_5, .null, .null, .null, .null, .null, .null, .null, .int (nI 0), .int (nI 0), .int (nI 0), .int (nI 0), .int (nI 0), .int (nI 0), .int (nI 0), .int (nI 0), .int (nI 0), .null, .int (nI 0), .int (nI 0), .int (nI 0), .int (nI 0), .int (nI 0), .null, .null, .null, .null, .null, .null, .null, .null, .null, .null, .int (nI 0), .null, .null, .null], bA g a_1 600 (fun _ => 0), bA g a_2 1400 (fun _ => 0), bA g a_3 32 (fun _ => 0), iA g a_4 64 (fun _ => 0), iA g a_5 8 (fun _ => 0)] rfl dX11_init_43 ?_
  refine j_aload_n hX 0 dX11_init_46 rfl ?_
  refine j_pc 47 rfl ?_
  refine j_bipush hX (8) dX11_init_47 (by decide) ?_
  refine j_st [.int (nI 8), .ref h] rfl ?_
  refine j_newa hX (ty := .int) (n := 8) (a0 := (8, .inl (fun _ => 0))) 1 rfl (fun _ _ => rfl) (List.mem_of_getElem? (i := 8) rfl) rfl (fun _ => rfl) (by decide) (by decide) (Nat.le_of_ble_eq_true rfl) (Nat.le_of_ble_eq_true rfl) dX11_init_49 (fun a_6 => ?_)
  refine j_w [oB h 11 [.ref a_1, .int (nI 0), .ref a_2, .int (nI 0), .ref a_3, .ref a_4, .ref a_5, .null, .null, .null, .null, .null, .null, .null, .int (nI 0), .int (nI 0), .int (nI 0), .int (nI 0), .int (nI 0), .int (nI 0), .int (nI 0), .int (nI 0), .int (nI 0), .null, .int (nI 0), .int (nI 0), .int (nI 0), .int (nI 0), .int (nI 0), .null, .null, .null, .null, .null, .null, .null, .null, .null, .null, .int (nI 0), .null, .null, .null], bA g a_1 600 (fun _ => 0), bA g a_2 1400 (fun _ => 0), bA g a_3 32 (fun _ => 0), iA g a_4 64 (fun _ => 0), iA g a_5 8 (fun _ => 0), iA g a_6 8 (fun _ => 0)] rfl ?_
  refine j_w [oB h 11 [.ref a_1, .int (nI 0), .ref a_2, .int (nI 0), .ref a_3, .ref a_4, .ref a_5, .null, .null, .null, .null, .null, .null, .null, .int (nI 0), .int (nI 0), .int (nI 0), .int (nI 0), .int (nI 0), .int (nI 0), .int (nI 0), .int (nI 0), .int (nI 0), .null, .int (nI 0), .int (nI 0), .int (nI 0), .int (nI 0), .int (nI 0), .null, .null, .null, .null, .null, .null, .null, .null, .null, .null, .int (nI 0), .null, .null, .null], bA g a_1 600 (fun _ => 0), bA g a_2 1400 (fun _ => 0), bA g a_3 32 (fun _ => 0), iA g a_4 64 (fun _ => 0), iA g a_5 8 (fun _ => 0), iA g a_6 8 (tk s_first 0)] (by rw [tk_0 s_first]) ?_
  refine j_dup hX dX11_init_51 rfl ?_
  refine j_iconst hX (0) dX11_init_52 (by decide) ?_
  refine j_ldc hX dX11_init_53 (List.mem_of_getElem? (i := 11) rfl) ?_
  refine j_iastN hX 6 0 rfl (by omega) (by omega) [oB h 11 [.ref a_1, .int (nI 0), .ref a_2, .int (nI 0), .ref a_3, .ref a_4, .ref a_5, .null, .null, .null, .null, .null, .null, .null, .int (nI 0), .int (nI 0), .int (nI 0), .int (nI 0), .int (nI 0), .int (nI 0), .int (nI 0), .int (nI 0), .int (nI 0), .null, .int (nI 0), .int (nI 0), .int (nI 0), .int (nI 0), .int (nI 0), .null, .null, .null, .null, .null, .null, .null, .null, .null, .null, .int (nI 0), .null, .null, .null], bA g a_1 600 (fun _ => 0), bA g a_2 1400 (fun _ => 0), bA g a_3 32 (fun _ => 0), iA g a_4 64 (fun _ => 0), iA g a_5 8 (fun _ => 0), iA g a_6 8 (upd (tk s_first 0) 0 1779033703)] rfl dX11_init_55 ?_
  refine j_w [oB h 11 [.ref a_1, .int (nI 0), .ref a_2, .int (nI 0), .ref a_3, .ref a_4, .ref a_5, .null, .null, .null, .null, .null, .null, .null, .int (nI 0), .int (nI 0), .int (nI 0), .int (nI 0), .int (nI 0), .int (nI 0), .int (nI 0), .int (nI 0), .int (nI 0), .null, .int (nI 0), .int (nI 0), .int (nI 0), .int (nI 0), .int (nI 0), .null, .null, .null, .null, .null, .null, .null, .null, .null, .null, .int (nI 0), .null, .null, .null], bA g a_1 600 (fun _ => 0), bA g a_2 1400 (fun _ => 0), bA g a_3 32 (fun _ => 0), iA g a_4 64 (fun _ => 0), iA g a_5 8 (fun _ => 0), iA g a_6 8 (tk s_first 1)] (by rw [tk_step (show (1779033703 : Int32) = s_first.getD 0 0 from rfl)]) ?_
  refine j_dup hX dX11_init_56 rfl ?_
  refine j_iconst hX (1) dX11_init_57 (by decide) ?_
  refine j_pc 58 rfl ?_
  refine j_ldc hX dX11_init_58 (List.mem_of_getElem? (i := 12) rfl) ?_
  refine j_iastN hX 6 1 rfl (by omega) (by omega) [oB h 11 [.ref a_1, .int (nI 0), .ref a_2, .int (nI 0), .ref a_3, .ref a_4, .ref a_5, .null, .null, .null, .null, .null, .null, .null, .int (nI 0), .int (nI 0), .int (nI 0), .int (nI 0), .int (nI 0), .int (nI 0), .int (nI 0), .int (nI 0), .int (nI 0), .null, .int (nI 0), .int (nI 0), .int (nI 0), .int (nI 0), .int (nI 0), .null, .null, .null, .null, .null, .null, .null, .null, .null, .null, .int (nI 0), .null, .null, .null], bA g a_1 600 (fun _ => 0), bA g a_2 1400 (fun _ => 0), bA g a_3 32 (fun _ => 0), iA g a_4 64 (fun _ => 0), iA g a_5 8 (fun _ => 0), iA g a_6 8 (upd (tk s_first 1) 1 (-1150833019))] rfl dX11_init_60 ?_
  refine j_w [oB h 11 [.ref a_1, .int (nI 0), .ref a_2, .int (nI 0), .ref a_3, .ref a_4, .ref a_5, .null, .null, .null, .null, .null, .null, .null, .int (nI 0), .int (nI 0), .int (nI 0), .int (nI 0), .int (nI 0), .int (nI 0), .int (nI 0), .int (nI 0), .int (nI 0), .null, .int (nI 0), .int (nI 0), .int (nI 0), .int (nI 0), .int (nI 0), .null, .null, .null, .null, .null, .null, .null, .null, .null, .null, .int (nI 0), .null, .null, .null], bA g a_1 600 (fun _ => 0), bA g a_2 1400 (fun _ => 0), bA g a_3 32 (fun _ => 0), iA g a_4 64 (fun _ => 0), iA g a_5 8 (fun _ => 0), iA g a_6 8 (tk s_first 2)] (by rw [tk_step (show ((-1150833019) : Int32) = s_first.getD 1 0 from rfl)]) ?_
  refine j_dup hX dX11_init_61 rfl ?_
  refine j_iconst hX (2) dX11_init_62 (by decide) ?_
  refine j_ldc hX dX11_init_63 (List.mem_of_getElem? (i := 13) rfl) ?_
  refine j_iastN hX 6 2 rfl (by omega) (by omega) [oB h 11 [.ref a_1, .int (nI 0), .ref a_2, .int (nI 0), .ref a_3, .ref a_4, .ref a_5, .null, .null, .null, .null, .null, .null, .null, .int (nI 0), .int (nI 0), .int (nI 0), .int (nI 0), .int (nI 0), .int (nI 0), .int (nI 0), .int (nI 0), .int (nI 0), .null, .int (nI 0), .int (nI 0), .int (nI 0), .int (nI 0), .int (nI 0), .null, .null, .null, .null, .null, .null, .null, .null, .null, .null, .int (nI 0), .null, .null, .null], bA g a_1 600 (fun _ => 0), bA g a_2 1400 (fun _ => 0), bA g a_3 32 (fun _ => 0), iA g a_4 64 (fun _ => 0), iA g a_5 8 (fun _ => 0), iA g a_6 8 (upd (tk s_first 2) 2 1013904242)] rfl dX11_init_65 ?_
  refine j_w [oB h 11 [.ref a_1, .int (nI 0), .ref a_2, .int (nI 0), .ref a_3, .ref a_4, .ref a_5, .null, .null, .null, .null, .null, .null, .null, .int (nI 0), .int (nI 0), .int (nI 0), .int (nI 0), .int (nI 0), .int (nI 0), .int (nI 0), .int (nI 0), .int (nI 0), .null, .int (nI 0), .int (nI 0), .int (nI 0), .int (nI 0), .int (nI 0), .null, .null, .null, .null, .null, .null, .null, .null, .null, .null, .int (nI 0), .null, .null, .null], bA g a_1 600 (fun _ => 0), bA g a_2 1400 (fun _ => 0), bA g a_3 32 (fun _ => 0), iA g a_4 64 (fun _ => 0), iA g a_5 8 (fun _ => 0), iA g a_6 8 (tk s_first 3)] (by rw [tk_step (show (1013904242 : Int32) = s_first.getD 2 0 from rfl)]) ?_
  refine j_dup hX dX11_init_66 rfl ?_
  refine j_iconst hX (3) dX11_init_67 (by decide) ?_
  refine j_pc 68 rfl ?_
  refine j_ldc hX dX11_init_68 (List.mem_of_getElem? (i := 14) rfl) ?_
  refine j_iastN hX 6 3 rfl (by omega) (by omega) [oB h 11 [.ref a_1, .int (nI 0), .ref a_2, .int (nI 0), .ref a_3, .ref a_4, .ref a_5, .null, .null, .null, .null, .null, .null, .null, .int (nI 0), .int (nI 0), .int (nI 0), .int (nI 0), .int (nI 0), .int (nI 0), .int (nI 0), .int (nI 0), .int (nI 0), .null, .int (nI 0), .int (nI 0), .int (nI 0), .int (nI 0), .int (nI 0), .null, .null, .null, .null, .null, .null, .null, .null, .null, .null, .int (nI 0), .null, .null, .null], bA g a_1 600 (fun _ => 0), bA g a_2 1400 (fun _ => 0), bA g a_3 32 (fun _ => 0), iA g a_4 64 (fun _ => 0), iA g a_5 8 (fun _ => 0), iA g a_6 8 (upd (tk s_first 3) 3 (-1521486534))] rfl dX11_init_70 ?_
  refine j_w [oB h 11 [.ref a_1, .int (nI 0), .ref a_2, .int (nI 0), .ref a_3, .ref a_4, .ref a_5, .null, .null, .null, .null, .null, .null, .null, .int (nI 0), .int (nI 0), .int (nI 0), .int (nI 0), .int (nI 0), .int (nI 0), .int (nI 0), .int (nI 0), .int (nI 0), .null, .int (nI 0), .int (nI 0), .int (nI 0), .int (nI 0), .int (nI 0), .null, .null, .null, .null, .null, .null, .null, .null, .null, .null, .int (nI 0), .null, .null, .null], bA g a_1 600 (fun _ => 0), bA g a_2 1400 (fun _ => 0), bA g a_3 32 (fun _ => 0), iA g a_4 64 (fun _ => 0), iA g a_5 8 (fun _ => 0), iA g a_6 8 (tk s_first 4)] (by rw [tk_step (show ((-1521486534) : Int32) = s_first.getD 3 0 from rfl)]) ?_
  refine j_dup hX dX11_init_71 rfl ?_
  refine j_iconst hX (4) dX11_init_72 (by decide) ?_
  refine j_ldc hX dX11_init_73 (List.mem_of_getElem? (i := 15) rfl) ?_
  refine j_iastN hX 6 4 rfl (by omega) (by omega) [oB h 11 [.ref a_1, .int (nI 0), .ref a_2, .int (nI 0), .ref a_3, .ref a_4, .ref a_5, .null, .null, .null, .null, .null, .null, .null, .int (nI 0), .int (nI 0), .int (nI 0), .int (nI 0), .int (nI 0), .int (nI 0), .int (nI 0), .int (nI 0), .int (nI 0), .null, .int (nI 0), .int (nI 0), .int (nI 0), .int (nI 0), .int (nI 0), .null, .null, .null, .null, .null, .null, .null, .null, .null, .null, .int (nI 0), .null, .null, .null], bA g a_1 600 (fun _ => 0), bA g a_2 1400 (fun _ => 0), bA g a_3 32 (fun _ => 0), iA g a_4 64 (fun _ => 0), iA g a_5 8 (fun _ => 0), iA g a_6 8 (upd (tk s_first 4) 4 1359893119)] rfl dX11_init_75 ?_
  refine j_w [oB h 11 [.ref a_1, .int (nI 0), .ref a_2, .int (nI 0), .ref a_3, .ref a_4, .ref a_5, .null, .null, .null, .null, .null, .null, .null, .int (nI 0), .int (nI 0), .int (nI 0), .int (nI 0), .int (nI 0), .int (nI 0), .int (nI 0), .int (nI 0), .int (nI 0), .null, .int (nI 0), .int (nI 0), .int (nI 0), .int (nI 0), .int (nI 0), .null, .null, .null, .null, .null, .null, .null, .null, .null, .null, .int (nI 0), .null, .null, .null], bA g a_1 600 (fun _ => 0), bA g a_2 1400 (fun _ => 0), bA g a_3 32 (fun _ => 0), iA g a_4 64 (fun _ => 0), iA g a_5 8 (fun _ => 0), iA g a_6 8 (tk s_first 5)] (by rw [tk_step (show (1359893119 : Int32) = s_first.getD 4 0 from rfl)]) ?_
  refine j_dup hX dX11_init_76 rfl ?_
  refine j_iconst hX (5) dX11_init_77 (by decide) ?_
  refine j_pc 78 rfl ?_
  refine j_ldc hX dX11_init_78 (List.mem_of_getElem? (i := 16) rfl) ?_
  refine j_iastN hX 6 5 rfl (by omega) (by omega) [oB h 11 [.ref a_1, .int (nI 0), .ref a_2, .int (nI 0), .ref a_3, .ref a_4, .ref a_5, .null, .null, .null, .null, .null, .null, .null, .int (nI 0), .int (nI 0), .int (nI 0), .int (nI 0), .int (nI 0), .int (nI 0), .int (nI 0), .int (nI 0), .int (nI 0), .null, .int (nI 0), .int (nI 0), .int (nI 0), .int (nI 0), .int (nI 0), .null, .null, .null, .null, .null, .null, .null, .null, .null, .null, .int (nI 0), .null, .null, .null], bA g a_1 600 (fun _ => 0), bA g a_2 1400 (fun _ => 0), bA g a_3 32 (fun _ => 0), iA g a_4 64 (fun _ => 0), iA g a_5 8 (fun _ => 0), iA g a_6 8 (upd (tk s_first 5) 5 (-1694144372))] rfl dX11_init_80 ?_
  refine j_w [oB h 11 [.ref a_1, .int (nI 0), .ref a_2, .int (nI 0), .ref a_3, .ref a_4, .ref a_5, .null, .null, .null, .null, .null, .null, .null, .int (nI 0), .int (nI 0), .int (nI 0), .int (nI 0), .int (nI 0), .int (nI 0), .int (nI 0), .int (nI 0), .int (nI 0), .null, .int (nI 0), .int (nI 0), .int (nI 0), .int (nI 0), .int (nI 0), .null, .null, .null, .null, .null, .null, .null, .null, .null, .null, .int (nI 0), .null, .null, .null], bA g a_1 600 (fun _ => 0), bA g a_2 1400 (fun _ => 0), bA g a_3 32 (fun _ => 0), iA g a_4 64 (fun _ => 0), iA g a_5 8 (fun _ => 0), iA g a_6 8 (tk s_first 6)] (by rw [tk_step (show ((-1694144372) : Int32) = s_first.getD 5 0 from rfl)]) ?_
  refine j_dup hX dX11_init_81 rfl ?_
  refine j_bipush hX (6) dX11_init_82 (by decide) ?_
  refine j_ldc hX dX11_init_84 (List.mem_of_getElem? (i := 17) rfl) ?_
  refine j_iastN hX 6 6 rfl (by omega) (by omega) [oB h 11 [.ref a_1, .int (nI 0), .ref a_2, .int (nI 0), .ref a_3, .ref a_4, .ref a_5, .null, .null, .null, .null, .null, .null, .null, .int (nI 0), .int (nI 0), .int (nI 0), .int (nI 0), .int (nI 0), .int (nI 0), .int (nI 0), .int (nI 0), .int (nI 0), .null, .int (nI 0), .int (nI 0), .int (nI 0), .int (nI 0), .int (nI 0), .null, .null, .null, .null, .null, .null, .null, .null, .null, .null, .int (nI 0), .null, .null, .null], bA g a_1 600 (fun _ => 0), bA g a_2 1400 (fun _ => 0), bA g a_3 32 (fun _ => 0), iA g a_4 64 (fun _ => 0), iA g a_5 8 (fun _ => 0), iA g a_6 8 (upd (tk s_first 6) 6 528734635)] rfl dX11_init_86 ?_
  refine j_w [oB h 11 [.ref a_1, .int (nI 0), .ref a_2, .int (nI 0), .ref a_3, .ref a_4, .ref a_5, .null, .null, .null, .null, .null, .null, .null, .int (nI 0), .int (nI 0), .int (nI 0), .int (nI 0), .int (nI 0), .int (nI 0), .int (nI 0), .int (nI 0), .int (nI 0), .null, .int (nI 0), .int (nI 0), .int (nI 0), .int (nI 0), .int (nI 0), .null, .null, .null, .null, .null, .null, .null, .null, .null, .null, .int (nI 0), .null, .null, .null], bA g a_1 600 (fun _ => 0), bA g a_2 1400 (fun _ => 0), bA g a_3 32 (fun _ => 0), iA g a_4 64 (fun _ => 0), iA g a_5 8 (fun _ => 0), iA g a_6 8 (tk s_first 7)] (by rw [tk_step (show (528734635 : Int32) = s_first.getD 6 0 from rfl)]) ?_
  refine j_dup hX dX11_init_87 rfl ?_
  refine j_bipush hX (7) dX11_init_88 (by decide) ?_
  refine j_pc 90 rfl ?_
  refine j_ldc hX dX11_init_90 (List.mem_of_getElem? (i := 18) rfl) ?_
  refine j_iastN hX 6 7 rfl (by omega) (by omega) [oB h 11 [.ref a_1, .int (nI 0), .ref a_2, .int (nI 0), .ref a_3, .ref a_4, .ref a_5, .null, .null, .null, .null, .null, .null, .null, .int (nI 0), .int (nI 0), .int (nI 0), .int (nI 0), .int (nI 0), .int (nI 0), .int (nI 0), .int (nI 0), .int (nI 0), .null, .int (nI 0), .int (nI 0), .int (nI 0), .int (nI 0), .int (nI 0), .null, .null, .null, .null, .null, .null, .null, .null, .null, .null, .int (nI 0), .null, .null, .null], bA g a_1 600 (fun _ => 0), bA g a_2 1400 (fun _ => 0), bA g a_3 32 (fun _ => 0), iA g a_4 64 (fun _ => 0), iA g a_5 8 (fun _ => 0), iA g a_6 8 (upd (tk s_first 7) 7 1541459225)] rfl dX11_init_92 ?_
  refine j_w [oB h 11 [.ref a_1, .int (nI 0), .ref a_2, .int (nI 0), .ref a_3, .ref a_4, .ref a_5, .null, .null, .null, .null, .null, .null, .null, .int (nI 0), .int (nI 0), .int (nI 0), .int (nI 0), .int (nI 0), .int (nI 0), .int (nI 0), .int (nI 0), .int (nI 0), .null, .int (nI 0), .int (nI 0), .int (nI 0), .int (nI 0), .int (nI 0), .null, .null, .null, .null, .null, .null, .null, .null, .null, .null, .int (nI 0), .null, .null, .null], bA g a_1 600 (fun _ => 0), bA g a_2 1400 (fun _ => 0), bA g a_3 32 (fun _ => 0), iA g a_4 64 (fun _ => 0), iA g a_5 8 (fun _ => 0), iA g a_6 8 (tk s_first 8)] (by rw [tk_step (show (1541459225 : Int32) = s_first.getD 7 0 from rfl)]) ?_
  refine j_putF hX hin (v := .ref a_6) in11 tyX11 tyX11_ok nmX11 11 0 7 rfl rfl (by decide) (List.mem_of_getElem? (i := 19) rfl) rfl rfl rfl rfl rfl rfl (Nat.le_of_ble_eq_true rfl) [oB h 11 [.ref a_1, .int (nI 0), .ref a_2, .int (nI 0), .ref a_3, .ref a_4, .ref a_5, .ref a_6, .null, .null, .null, .null, .null, .null, .int (nI 0), .int (nI 0), .int (nI 0), .int (nI 0), .int (nI 0), .int (nI 0), .int (nI 0), .int (nI 0), .int (nI 0), .null, .int (nI 0), .int (nI 0), .int (nI 0), .int (nI 0), .int (nI 0), .null, .null, .null, .null, .null, .null, .null, .null, .null, .null, .int (nI 0), .null, .null, .null], bA g a_1 600 (fun _ => 0), bA g a_2 1400 (fun _ => 0), bA g a_3 32 (fun _ => 0), iA g a_4 64 (fun _ => 0), iA g a_5 8 (fun _ => 0), iA g a_6 8 (tk s_first 8)] rfl dX11_init_93 ?_
  refine j_aload_n hX 0 dX11_init_96 rfl ?_
  refine j_bipush hX (64) dX11_init_97 (by decide) ?_
  refine j_st [.int (nI 64), .ref h] rfl ?_
  refine j_newa hX (ty := .int) (n := 64) (a0 := (64, .inl (fun _ => 0))) 1 rfl (fun _ _ => rfl) (List.mem_of_getElem? (i := 8) rfl) rfl (fun _ => rfl) (by decide) (by decide) (Nat.le_of_ble_eq_true rfl) (Nat.le_of_ble_eq_true rfl) dX11_init_99 (fun a_7 => ?_)
  refine j_w [oB h 11 [.ref a_1, .int (nI 0), .ref a_2, .int (nI 0), .ref a_3, .ref a_4, .ref a_5, .ref a_6, .null, .null, .null, .null, .null, .null, .int (nI 0), .int (nI 0), .int (nI 0), .int (nI 0), .int (nI 0), .int (nI 0), .int (nI 0), .int (nI 0), .int (nI 0), .null, .int (nI 0), .int (nI 0), .int (nI 0), .int (nI 0), .int (nI 0), .null, .null, .null, .null, .null, .null, .null, .null, .null, .null, .int (nI 0), .null, .null, .null], bA g a_1 600 (fun _ => 0), bA g a_2 1400 (fun _ => 0), bA g a_3 32 (fun _ => 0), iA g a_4 64 (fun _ => 0), iA g a_5 8 (fun _ => 0), iA g a_6 8 (tk s_first 8), iA g a_7 64 (fun _ => 0)] rfl ?_
  refine j_w [oB h 11 [.ref a_1, .int (nI 0), .ref a_2, .int (nI 0), .ref a_3, .ref a_4, .ref a_5, .ref a_6, .null, .null, .null, .null, .null, .null, .int (nI 0), .int (nI 0), .int (nI 0), .int (nI 0), .int (nI 0), .int (nI 0), .int (nI 0), .int (nI 0), .int (nI 0), .null, .int (nI 0), .int (nI 0), .int (nI 0), .int (nI 0), .int (nI 0), .null, .null, .null, .null, .null, .null, .null, .null, .null, .null, .int (nI 0), .null, .null, .null], bA g a_1 600 (fun _ => 0), bA g a_2 1400 (fun _ => 0), bA g a_3 32 (fun _ => 0), iA g a_4 64 (fun _ => 0), iA g a_5 8 (fun _ => 0), iA g a_6 8 (tk s_first 8), iA g a_7 64 (tk s_cube 0)] (by rw [tk_0 s_cube]) ?_
  refine j_dup hX dX11_init_101 rfl ?_
  refine j_iconst hX (0) dX11_init_102 (by decide) ?_
  refine j_pc 103 rfl ?_
  refine j_ldc hX dX11_init_103 (List.mem_of_getElem? (i := 20) rfl) ?_
  refine j_iastN hX 7 0 rfl (by omega) (by omega) [oB h 11 [.ref a_1, .int (nI 0), .ref a_2, .int (nI 0), .ref a_3, .ref a_4, .ref a_5, .ref a_6, .null, .null, .null, .null, .null, .null, .int (nI 0), .int (nI 0), .int (nI 0), .int (nI 0), .int (nI 0), .int (nI 0), .int (nI 0), .int (nI 0), .int (nI 0), .null, .int (nI 0), .int (nI 0), .int (nI 0), .int (nI 0), .int (nI 0), .null, .null, .null, .null, .null, .null, .null, .null, .null, .null, .int (nI 0), .null, .null, .null], bA g a_1 600 (fun _ => 0), bA g a_2 1400 (fun _ => 0), bA g a_3 32 (fun _ => 0), iA g a_4 64 (fun _ => 0), iA g a_5 8 (fun _ => 0), iA g a_6 8 (tk s_first 8), iA g a_7 64 (upd (tk s_cube 0) 0 1116352408)] rfl dX11_init_105 ?_
  refine j_w [oB h 11 [.ref a_1, .int (nI 0), .ref a_2, .int (nI 0), .ref a_3, .ref a_4, .ref a_5, .ref a_6, .null, .null, .null, .null, .null, .null, .int (nI 0), .int (nI 0), .int (nI 0), .int (nI 0), .int (nI 0), .int (nI 0), .int (nI 0), .int (nI 0), .int (nI 0), .null, .int (nI 0), .int (nI 0), .int (nI 0), .int (nI 0), .int (nI 0), .null, .null, .null, .null, .null, .null, .null, .null, .null, .null, .int (nI 0), .null, .null, .null], bA g a_1 600 (fun _ => 0), bA g a_2 1400 (fun _ => 0), bA g a_3 32 (fun _ => 0), iA g a_4 64 (fun _ => 0), iA g a_5 8 (fun _ => 0), iA g a_6 8 (tk s_first 8), iA g a_7 64 (tk s_cube 1)] (by rw [tk_step (show (1116352408 : Int32) = s_cube.getD 0 0 from rfl)]) ?_
  refine j_dup hX dX11_init_106 rfl ?_
  refine j_iconst hX (1) dX11_init_107 (by decide) ?_
  refine j_ldc hX dX11_init_108 (List.mem_of_getElem? (i := 21) rfl) ?_
  refine j_iastN hX 7 1 rfl (by omega) (by omega) [oB h 11 [.ref a_1, .int (nI 0), .ref a_2, .int (nI 0), .ref a_3, .ref a_4, .ref a_5, .ref a_6, .null, .null, .null, .null, .null, .null, .int (nI 0), .int (nI 0), .int (nI 0), .int (nI 0), .int (nI 0), .int (nI 0), .int (nI 0), .int (nI 0), .int (nI 0), .null, .int (nI 0), .int (nI 0), .int (nI 0), .int (nI 0), .int (nI 0), .null, .null, .null, .null, .null, .null, .null, .null, .null, .null, .int (nI 0), .null, .null, .null], bA g a_1 600 (fun _ => 0), bA g a_2 1400 (fun _ => 0), bA g a_3 32 (fun _ => 0), iA g a_4 64 (fun _ => 0), iA g a_5 8 (fun _ => 0), iA g a_6 8 (tk s_first 8), iA g a_7 64 (upd (tk s_cube 1) 1 1899447441)] rfl dX11_init_110 ?_
  refine j_w [oB h 11 [.ref a_1, .int (nI 0), .ref a_2, .int (nI 0), .ref a_3, .ref a_4, .ref a_5, .ref a_6, .null, .null, .null, .null, .null, .null, .int (nI 0), .int (nI 0), .int (nI 0), .int (nI 0), .int (nI 0), .int (nI 0), .int (nI 0), .int (nI 0), .int (nI 0), .null, .int (nI 0), .int (nI 0), .int (nI 0), .int (nI 0), .int (nI 0), .null, .null, .null, .null, .null, .null, .null, .null, .null, .null, .int (nI 0), .null, .null, .null], bA g a_1 600 (fun _ => 0), bA g a_2 1400 (fun _ => 0), bA g a_3 32 (fun _ => 0), iA g a_4 64 (fun _ => 0), iA g a_5 8 (fun _ => 0), iA g a_6 8 (tk s_first 8), iA g a_7 64 (tk s_cube 2)] (by rw [tk_step (show (1899447441 : Int32) = s_cube.getD 1 0 from rfl)]) ?_
  refine j_dup hX dX11_init_111 rfl ?_
  refine j_iconst hX (2) dX11_init_112 (by decide) ?_
  refine j_pc 113 rfl ?_
  refine j_ldc hX dX11_init_113 (List.mem_of_getElem? (i := 22) rfl) ?_
  refine j_iastN hX 7 2 rfl (by omega) (by omega) [oB h 11 [.ref a_1, .int (nI 0), .ref a_2, .int (nI 0), .ref a_3, .ref a_4, .ref a_5, .ref a_6, .null, .null, .null, .null, .null, .null, .int (nI 0), .int (nI 0), .int (nI 0), .int (nI 0), .int (nI 0), .int (nI 0), .int (nI 0), .int (nI 0), .int (nI 0), .null, .int (nI 0), .int (nI 0), .int (nI 0), .int (nI 0), .int (nI 0), .null, .null, .null, .null, .null, .null, .null, .null, .null, .null, .int (nI 0), .null, .null, .null], bA g a_1 600 (fun _ => 0), bA g a_2 1400 (fun _ => 0), bA g a_3 32 (fun _ => 0), iA g a_4 64 (fun _ => 0), iA g a_5 8 (fun _ => 0), iA g a_6 8 (tk s_first 8), iA g a_7 64 (upd (tk s_cube 2) 2 (-1245643825))] rfl dX11_init_115 ?_
  refine j_w [oB h 11 [.ref a_1, .int (nI 0), .ref a_2, .int (nI 0), .ref a_3, .ref a_4, .ref a_5, .ref a_6, .null, .null, .null, .null, .null, .null, .int (nI 0), .int (nI 0), .int (nI 0), .int (nI 0), .int (nI 0), .int (nI 0), .int (nI 0), .int (nI 0), .int (nI 0), .null, .int (nI 0), .int (nI 0), .int (nI 0), .int (nI 0), .int (nI 0), .null, .null, .null, .null, .null, .null, .null, .null, .null, .null, .int (nI 0), .null, .null, .null], bA g a_1 600 (fun _ => 0), bA g a_2 1400 (fun _ => 0), bA g a_3 32 (fun _ => 0), iA g a_4 64 (fun _ => 0), iA g a_5 8 (fun _ => 0), iA g a_6 8 (tk s_first 8), iA g a_7 64 (tk s_cube 3)] (by rw [tk_step (show ((-1245643825) : Int32) = s_cube.getD 2 0 from rfl)]) ?_
  refine j_dup hX dX11_init_116 rfl ?_
  refine j_iconst hX (3) dX11_init_117 (by decide) ?_
  refine j_ldc hX dX11_init_118 (List.mem_of_getElem? (i := 23) rfl) ?_
  refine j_iastN hX 7 3 rfl (by omega) (by omega) [oB h 11 [.ref a_1, .int (nI 0), .ref a_2, .int (nI 0), .ref a_3, .ref a_4, .ref a_5, .ref a_6, .null, .null, .null, .null, .null, .null, .int (nI 0), .int (nI 0), .int (nI 0), .int (nI 0), .int (nI 0), .int (nI 0), .int (nI 0), .int (nI 0), .int (nI 0), .null, .int (nI 0), .int (nI 0), .int (nI 0), .int (nI 0), .int (nI 0), .null, .null, .null, .null, .null, .null, .null, .null, .null, .null, .int (nI 0), .null, .null, .null], bA g a_1 600 (fun _ => 0), bA g a_2 1400 (fun _ => 0), bA g a_3 32 (fun _ => 0), iA g a_4 64 (fun _ => 0), iA g a_5 8 (fun _ => 0), iA g a_6 8 (tk s_first 8), iA g a_7 64 (upd (tk s_cube 3) 3 (-373957723))] rfl dX11_init_120 ?_
  refine j_w [oB h 11 [.ref a_1, .int (nI 0), .ref a_2, .int (nI 0), .ref a_3, .ref a_4, .ref a_5, .ref a_6, .null, .null, .null, .null, .null, .null, .int (nI 0), .int (nI 0), .int (nI 0), .int (nI 0), .int (nI 0), .int (nI 0), .int (nI 0), .int (nI 0), .int (nI 0), .null, .int (nI 0), .int (nI 0), .int (nI 0), .int (nI 0), .int (nI 0), .null, .null, .null, .null, .null, .null, .null, .null, .null, .null, .int (nI 0), .null, .null, .null], bA g a_1 600 (fun _ => 0), bA g a_2 1400 (fun _ => 0), bA g a_3 32 (fun _ => 0), iA g a_4 64 (fun _ => 0), iA g a_5 8 (fun _ => 0), iA g a_6 8 (tk s_first 8), iA g a_7 64 (tk s_cube 4)] (by rw [tk_step (show ((-373957723) : Int32) = s_cube.getD 3 0 from rfl)]) ?_
  refine j_dup hX dX11_init_121 rfl ?_
  refine j_iconst hX (4) dX11_init_122 (by decide) ?_
  refine j_pc 123 rfl ?_
  refine j_ldc hX dX11_init_123 (List.mem_of_getElem? (i := 24) rfl) ?_
  refine j_iastN hX 7 4 rfl (by omega) (by omega) [oB h 11 [.ref a_1, .int (nI 0), .ref a_2, .int (nI 0), .ref a_3, .ref a_4, .ref a_5, .ref a_6, .null, .null, .null, .null, .null, .null, .int (nI 0), .int (nI 0), .int (nI 0), .int (nI 0), .int (nI 0), .int (nI 0), .int (nI 0), .int (nI 0), .int (nI 0), .null, .int (nI 0), .int (nI 0), .int (nI 0), .int (nI 0), .int (nI 0), .null, .null, .null, .null, .null, .null, .null, .null, .null, .null, .int (nI 0), .null, .null, .null], bA g a_1 600 (fun _ => 0), bA g a_2 1400 (fun _ => 0), bA g a_3 32 (fun _ => 0), iA g a_4 64 (fun _ => 0), iA g a_5 8 (fun _ => 0), iA g a_6 8 (tk s_first 8), iA g a_7 64 (upd (tk s_cube 4) 4 961987163)] rfl dX11_init_125 ?_
  refine j_w [oB h 11 [.ref a_1, .int (nI 0), .ref a_2, .int (nI 0), .ref a_3, .ref a_4, .ref a_5, .ref a_6, .null, .null, .null, .null, .null, .null, .int (nI 0), .int (nI 0), .int (nI 0), .int (nI 0), .int (nI 0), .int (nI 0), .int (nI 0), .int (nI 0), .int (nI 0), .null, .int (nI 0), .int (nI 0), .int (nI 0), .int (nI 0), .int (nI 0), .null, .null, .null, .null, .null, .null, .null, .null, .null, .null, .int (nI 0), .null, .null, .null], bA g a_1 600 (fun _ => 0), bA g a_2 1400 (fun _ => 0), bA g a_3 32 (fun _ => 0), iA g a_4 64 (fun _ => 0), iA g a_5 8 (fun _ => 0), iA g a_6 8 (tk s_first 8), iA g a_7 64 (tk s_cube 5)] (by rw [tk_step (show (961987163 : Int32) = s_cube.getD 4 0 from rfl)]) ?_
  refine j_dup hX dX11_init_126 rfl ?_
  refine j_iconst hX (5) dX11_init_127 (by decide) ?_
  refine j_ldc hX dX11_init_128 (List.mem_of_getElem? (i := 25) rfl) ?_
  refine j_iastN hX 7 5 rfl (by omega) (by omega) [oB h 11 [.ref a_1, .int (nI 0), .ref a_2, .int (nI 0), .ref a_3, .ref a_4, .ref a_5, .ref a_6, .null, .null, .null, .null, .null, .null, .int (nI 0), .int (nI 0), .int (nI 0), .int (nI 0), .int (nI 0), .int (nI 0), .int (nI 0), .int (nI 0), .int (nI 0), .null, .int (nI 0), .int (nI 0), .int (nI 0), .int (nI 0), .int (nI 0), .null, .null, .null, .null, .null, .null, .null, .null, .null, .null, .int (nI 0), .null, .null, .null], bA g a_1 600 (fun _ => 0), bA g a_2 1400 (fun _ => 0), bA g a_3 32 (fun _ => 0), iA g a_4 64 (fun _ => 0), iA g a_5 8 (fun _ => 0), iA g a_6 8 (tk s_first 8), iA g a_7 64 (upd (tk s_cube 5) 5 1508970993)] rfl dX11_init_130 ?_
  refine j_w [oB h 11 [.ref a_1, .int (nI 0), .ref a_2, .int (nI 0), .ref a_3, .ref a_4, .ref a_5, .ref a_6, .null, .null, .null, .null, .null, .null, .int (nI 0), .int (nI 0), .int (nI 0), .int (nI 0), .int (nI 0), .int (nI 0), .int (nI 0), .int (nI 0), .int (nI 0), .null, .int (nI 0), .int (nI 0), .int (nI 0), .int (nI 0), .int (nI 0), .null, .null, .null, .null, .null, .null, .null, .null, .null, .null, .int (nI 0), .null, .null, .null], bA g a_1 600 (fun _ => 0), bA g a_2 1400 (fun _ => 0), bA g a_3 32 (fun _ => 0), iA g a_4 64 (fun _ => 0), iA g a_5 8 (fun _ => 0), iA g a_6 8 (tk s_first 8), iA g a_7 64 (tk s_cube 6)] (by rw [tk_step (show (1508970993 : Int32) = s_cube.getD 5 0 from rfl)]) ?_
  refine j_dup hX dX11_init_131 rfl ?_
  refine j_bipush hX (6) dX11_init_132 (by decide) ?_
  refine j_pc 134 rfl ?_
  refine j_ldc hX dX11_init_134 (List.mem_of_getElem? (i := 26) rfl) ?_
  refine j_iastN hX 7 6 rfl (by omega) (by omega) [oB h 11 [.ref a_1, .int (nI 0), .ref a_2, .int (nI 0), .ref a_3, .ref a_4, .ref a_5, .ref a_6, .null, .null, .null, .null, .null, .null, .int (nI 0), .int (nI 0), .int (nI 0), .int (nI 0), .int (nI 0), .int (nI 0), .int (nI 0), .int (nI 0), .int (nI 0), .null, .int (nI 0), .int (nI 0), .int (nI 0), .int (nI 0), .int (nI 0), .null, .null, .null, .null, .null, .null, .null, .null, .null, .null, .int (nI 0), .null, .null, .null], bA g a_1 600 (fun _ => 0), bA g a_2 1400 (fun _ => 0), bA g a_3 32 (fun _ => 0), iA g a_4 64 (fun _ => 0), iA g a_5 8 (fun _ => 0), iA g a_6 8 (tk s_first 8), iA g a_7 64 (upd (tk s_cube 6) 6 (-1841331548))] rfl dX11_init_136 ?_
  refine j_w [oB h 11 [.ref a_1, .int (nI 0), .ref a_2, .int (nI 0), .ref a_3, .ref a_4, .ref a_5, .ref a_6, .null, .null, .null, .null, .null, .null, .int (nI 0), .int (nI 0), .int (nI 0), .int (nI 0), .int (nI 0), .int (nI 0), .int (nI 0), .int (nI 0), .int (nI 0), .null, .int (nI 0), .int (nI 0), .int (nI 0), .int (nI 0), .int (nI 0), .null, .null, .null, .null, .null, .null, .null, .null, .null, .null, .int (nI 0), .null, .null, .null], bA g a_1 600 (fun _ => 0), bA g a_2 1400 (fun _ => 0), bA g a_3 32 (fun _ => 0), iA g a_4 64 (fun _ => 0), iA g a_5 8 (fun _ => 0), iA g a_6 8 (tk s_first 8), iA g a_7 64 (tk s_cube 7)] (by rw [tk_step (show ((-1841331548) : Int32) = s_cube.getD 6 0 from rfl)]) ?_
  refine j_dup hX dX11_init_137 rfl ?_
  refine j_bipush hX (7) dX11_init_138 (by decide) ?_
  refine j_ldc hX dX11_init_140 (List.mem_of_getElem? (i := 27) rfl) ?_
  refine j_iastN hX 7 7 rfl (by omega) (by omega) [oB h 11 [.ref a_1, .int (nI 0), .ref a_2, .int (nI 0), .ref a_3, .ref a_4, .ref a_5, .ref a_6, .null, .null, .null, .null, .null, .null, .int (nI 0), .int (nI 0), .int (nI 0), .int (nI 0), .int (nI 0), .int (nI 0), .int (nI 0), .int (nI 0), .int (nI 0), .null, .int (nI 0), .int (nI 0), .int (nI 0), .int (nI 0), .int (nI 0), .null, .null, .null, .null, .null, .null, .null, .null, .null, .null, .int (nI 0), .null, .null, .null], bA g a_1 600 (fun _ => 0), bA g a_2 1400 (fun _ => 0), bA g a_3 32 (fun _ => 0), iA g a_4 64 (fun _ => 0), iA g a_5 8 (fun _ => 0), iA g a_6 8 (tk s_first 8), iA g a_7 64 (upd (tk s_cube 7) 7 (-1424204075))] rfl dX11_init_142 ?_
  refine j_w [oB h 11 [.ref a_1, .int (nI 0), .ref a_2, .int (nI 0), .ref a_3, .ref a_4, .ref a_5, .ref a_6, .null, .null, .null, .null, .null, .null, .int (nI 0), .int (nI 0), .int (nI 0), .int (nI 0), .int (nI 0), .int (nI 0), .int (nI 0), .int (nI 0), .int (nI 0), .null, .int (nI 0), .int (nI 0), .int (nI 0), .int (nI 0), .int (nI 0), .null, .null, .null, .null, .null, .null, .null, .null, .null, .null, .int (nI 0), .null, .null, .null], bA g a_1 600 (fun _ => 0), bA g a_2 1400 (fun _ => 0), bA g a_3 32 (fun _ => 0), iA g a_4 64 (fun _ => 0), iA g a_5 8 (fun _ => 0), iA g a_6 8 (tk s_first 8), iA g a_7 64 (tk s_cube 8)] (by rw [tk_step (show ((-1424204075) : Int32) = s_cube.getD 7 0 from rfl)]) ?_
  refine j_dup hX dX11_init_143 rfl ?_
  refine j_bipush hX (8) dX11_init_144 (by decide) ?_
  refine j_pc 146 rfl ?_
  refine j_ldc hX dX11_init_146 (List.mem_of_getElem? (i := 28) rfl) ?_
  refine j_iastN hX 7 8 rfl (by omega) (by omega) [oB h 11 [.ref a_1, .int (nI 0), .ref a_2, .int (nI 0), .ref a_3, .ref a_4, .ref a_5, .ref a_6, .null, .null, .null, .null, .null, .null, .int (nI 0), .int (nI 0), .int (nI 0), .int (nI 0), .int (nI 0), .int (nI 0), .int (nI 0), .int (nI 0), .int (nI 0), .null, .int (nI 0), .int (nI 0), .int (nI 0), .int (nI 0), .int (nI 0), .null, .null, .null, .null, .null, .null, .null, .null, .null, .null, .int (nI 0), .null, .null, .null], bA g a_1 600 (fun _ => 0), bA g a_2 1400 (fun _ => 0), bA g a_3 32 (fun _ => 0), iA g a_4 64 (fun _ => 0), iA g a_5 8 (fun _ => 0), iA g a_6 8 (tk s_first 8), iA g a_7 64 (upd (tk s_cube 8) 8 (-670586216))] rfl dX11_init_148 ?_
  refine j_w [oB h 11 [.ref a_1, .int (nI 0), .ref a_2, .int (nI 0), .ref a_3, .ref a_4, .ref a_5, .ref a_6, .null, .null, .null, .null, .null, .null, .int (nI 0), .int (nI 0), .int (nI 0), .int (nI 0), .int (nI 0), .int (nI 0), .int (nI 0), .int (nI 0), .int (nI 0), .null, .int (nI 0), .int (nI 0), .int (nI 0), .int (nI 0), .int (nI 0), .null, .null, .null, .null, .null, .null, .null, .null, .null, .null, .int (nI 0), .null, .null, .null], bA g a_1 600 (fun _ => 0), bA g a_2 1400 (fun _ => 0), bA g a_3 32 (fun _ => 0), iA g a_4 64 (fun _ => 0), iA g a_5 8 (fun _ => 0), iA g a_6 8 (tk s_first 8), iA g a_7 64 (tk s_cube 9)] (by rw [tk_step (show ((-670586216) : Int32) = s_cube.getD 8 0 from rfl)]) ?_
  refine j_dup hX dX11_init_149 rfl ?_
  refine j_bipush hX (9) dX11_init_150 (by decide) ?_
  refine j_ldc hX dX11_init_152 (List.mem_of_getElem? (i := 29) rfl) ?_
  refine j_iastN hX 7 9 rfl (by omega) (by omega) [oB h 11 [.ref a_1, .int (nI 0), .ref a_2, .int (nI 0), .ref a_3, .ref a_4, .ref a_5, .ref a_6, .null, .null, .null, .null, .null, .null, .int (nI 0), .int (nI 0), .int (nI 0), .int (nI 0), .int (nI 0), .int (nI 0), .int (nI 0), .int (nI 0), .int (nI 0), .null, .int (nI 0), .int (nI 0), .int (nI 0), .int (nI 0), .int (nI 0), .null, .null, .null, .null, .null, .null, .null, .null, .null, .null, .int (nI 0), .null, .null, .null], bA g a_1 600 (fun _ => 0), bA g a_2 1400 (fun _ => 0), bA g a_3 32 (fun _ => 0), iA g a_4 64 (fun _ => 0), iA g a_5 8 (fun _ => 0), iA g a_6 8 (tk s_first 8), iA g a_7 64 (upd (tk s_cube 9) 9 310598401)] rfl dX11_init_154 ?_
  refine j_w [oB h 11 [.ref a_1, .int (nI 0), .ref a_2, .int (nI 0), .ref a_3, .ref a_4, .ref a_5, .ref a_6, .null, .null, .null, .null, .null, .null, .int (nI 0), .int (nI 0), .int (nI 0), .int (nI 0), .int (nI 0), .int (nI 0), .int (nI 0), .int (nI 0), .int (nI 0), .null, .int (nI 0), .int (nI 0), .int (nI 0), .int (nI 0), .int (nI 0), .null, .null, .null, .null, .null, .null, .null, .null, .null, .null, .int (nI 0), .null, .null, .null], bA g a_1 600 (fun _ => 0), bA g a_2 1400 (fun _ => 0), bA g a_3 32 (fun _ => 0), iA g a_4 64 (fun _ => 0), iA g a_5 8 (fun _ => 0), iA g a_6 8 (tk s_first 8), iA g a_7 64 (tk s_cube 10)] (by rw [tk_step (show (310598401 : Int32) = s_cube.getD 9 0 from rfl)]) ?_
  refine j_dup hX dX11_init_155 rfl ?_
  refine j_bipush hX (10) dX11_init_156 (by decide) ?_
  refine j_pc 158 rfl ?_
  refine j_ldc hX dX11_init_158 (List.mem_of_getElem? (i := 30) rfl) ?_
  refine j_iastN hX 7 10 rfl (by omega) (by omega) [oB h 11 [.ref a_1, .int (nI 0), .ref a_2, .int (nI 0), .ref a_3, .ref a_4, .ref a_5, .ref a_6, .null, .null, .null, .null, .null, .null, .int (nI 0), .int (nI 0), .int (nI 0), .int (nI 0), .int (nI 0), .int (nI 0), .int (nI 0), .int (nI 0), .int (nI 0), .null, .int (nI 0), .int (nI 0), .int (nI 0), .int (nI 0), .int (nI 0), .null, .null, .null, .null, .null, .null, .null, .null, .null, .null, .int (nI 0), .null, .null, .null], bA g a_1 600 (fun _ => 0), bA g a_2 1400 (fun _ => 0), bA g a_3 32 (fun _ => 0), iA g a_4 64 (fun _ => 0), iA g a_5 8 (fun _ => 0), iA g a_6 8 (tk s_first 8), iA g a_7 64 (upd (tk s_cube 10) 10 607225278)] rfl dX11_init_160 ?_
  refine j_w [oB h 11 [.ref a_1, .int (nI 0), .ref a_2, .int (nI 0), .ref a_3, .ref a_4, .ref a_5, .ref a_6, .null, .null, .null, .null, .null, .null, .int (nI 0), .int (nI 0), .int (nI 0), .int (nI 0), .int (nI 0), .int (nI 0), .int (nI 0), .int (nI 0), .int (nI 0), .null, .int (nI 0), .int (nI 0), .int (nI 0), .int (nI 0), .int (nI 0), .null, .null, .null, .null, .null, .null, .null, .null, .null, .null, .int (nI 0), .null, .null, .null], bA g a_1 600 (fun _ => 0), bA g a_2 1400 (fun _ => 0), bA g a_3 32 (fun _ => 0), iA g a_4 64 (fun _ => 0), iA g a_5 8 (fun _ => 0), iA g a_6 8 (tk s_first 8), iA g a_7 64 (tk s_cube 11)] (by rw [tk_step (show (607225278 : Int32) = s_cube.getD 10 0 from rfl)]) ?_
  refine j_dup hX dX11_init_161 rfl ?_
  refine j_bipush hX (11) dX11_init_162 (by decide) ?_
  refine j_ldc hX dX11_init_164 (List.mem_of_getElem? (i := 31) rfl) ?_
  refine j_iastN hX 7 11 rfl (by omega) (by omega) [oB h 11 [.ref a_1, .int (nI 0), .ref a_2, .int (nI 0), .ref a_3, .ref a_4, .ref a_5, .ref a_6, .null, .null, .null, .null, .null, .null, .int (nI 0), .int (nI 0), .int (nI 0), .int (nI 0), .int (nI 0), .int (nI 0), .int (nI 0), .int (nI 0), .int (nI 0), .null, .int (nI 0), .int (nI 0), .int (nI 0), .int (nI 0), .int (nI 0), .null, .null, .null, .null, .null, .null, .null, .null, .null, .null, .int (nI 0), .null, .null, .null], bA g a_1 600 (fun _ => 0), bA g a_2 1400 (fun _ => 0), bA g a_3 32 (fun _ => 0), iA g a_4 64 (fun _ => 0), iA g a_5 8 (fun _ => 0), iA g a_6 8 (tk s_first 8), iA g a_7 64 (upd (tk s_cube 11) 11 1426881987)] rfl dX11_init_166 ?_
  refine j_w [oB h 11 [.ref a_1, .int (nI 0), .ref a_2, .int (nI 0), .ref a_3, .ref a_4, .ref a_5, .ref a_6, .null, .null, .null, .null, .null, .null, .int (nI 0), .int (nI 0), .int (nI 0), .int (nI 0), .int (nI 0), .int (nI 0), .int (nI 0), .int (nI 0), .int (nI 0), .null, .int (nI 0), .int (nI 0), .int (nI 0), .int (nI 0), .int (nI 0), .null, .null, .null, .null, .null, .null, .null, .null, .null, .null, .int (nI 0), .null, .null, .null], bA g a_1 600 (fun _ => 0), bA g a_2 1400 (fun _ => 0), bA g a_3 32 (fun _ => 0), iA g a_4 64 (fun _ => 0), iA g a_5 8 (fun _ => 0), iA g a_6 8 (tk s_first 8), iA g a_7 64 (tk s_cube 12)] (by rw [tk_step (show (1426881987 : Int32) = s_cube.getD 11 0 from rfl)]) ?_
  refine j_dup hX dX11_init_167 rfl ?_
  refine j_bipush hX (12) dX11_init_168 (by decide) ?_
  refine j_pc 170 rfl ?_
  refine j_ldc hX dX11_init_170 (List.mem_of_getElem? (i := 32) rfl) ?_
  refine j_iastN hX 7 12 rfl (by omega) (by omega) [oB h 11 [.ref a_1, .int (nI 0), .ref a_2, .int (nI 0), .ref a_3, .ref a_4, .ref a_5, .ref a_6, .null, .null, .null, .null, .null, .null, .int (nI 0), .int (nI 0), .int (nI 0), .int (nI 0), .int (nI 0), .int (nI 0), .int (nI 0), .int (nI 0), .int (nI 0), .null, .int (nI 0), .int (nI 0), .int (nI 0), .int (nI 0), .int (nI 0), .null, .null, .null, .null, .null, .null, .null, .null, .null, .null, .int (nI 0), .null, .null, .null], bA g a_1 600 (fun _ => 0), bA g a_2 1400 (fun _ => 0), bA g a_3 32 (fun _ => 0), iA g a_4 64 (fun _ => 0), iA g a_5 8 (fun _ => 0), iA g a_6 8 (tk s_first 8), iA g a_7 64 (upd (tk s_cube 12) 12 1925078388)] rfl dX11_init_172 ?_
  refine j_w [oB h 11 [.ref a_1, .int (nI 0), .ref a_2, .int (nI 0), .ref a_3, .ref a_4, .ref a_5, .ref a_6, .null, .null, .null, .null, .null, .null, .int (nI 0), .int (nI 0), .int (nI 0), .int (nI 0), .int (nI 0), .int (nI 0), .int (nI 0), .int (nI 0), .int (nI 0), .null, .int (nI 0), .int (nI 0), .int (nI 0), .int (nI 0), .int (nI 0), .null, .null, .null, .null, .null, .null, .null, .null, .null, .null, .int (nI 0), .null, .null, .null], bA g a_1 600 (fun _ => 0), bA g a_2 1400 (fun _ => 0), bA g a_3 32 (fun _ => 0), iA g a_4 64 (fun _ => 0), iA g a_5 8 (fun _ => 0), iA g a_6 8 (tk s_first 8), iA g a_7 64 (tk s_cube 13)] (by rw [tk_step (show (1925078388 : Int32) = s_cube.getD 12 0 from rfl)]) ?_
  refine j_dup hX dX11_init_173 rfl ?_
  refine j_bipush hX (13) dX11_init_174 (by decide) ?_
  refine j_ldc hX dX11_init_176 (List.mem_of_getElem? (i := 33) rfl) ?_
  refine j_iastN hX 7 13 rfl (by omega) (by omega) [oB h 11 [.ref a_1, .int (nI 0), .ref a_2, .int (nI 0), .ref a_3, .ref a_4, .ref a_5, .ref a_6, .null, .null, .null, .null, .null, .null, .int (nI 0), .int (nI 0), .int (nI 0), .int (nI 0), .int (nI 0), .int (nI 0), .int (nI 0), .int (nI 0), .int (nI 0), .null, .int (nI 0), .int (nI 0), .int (nI 0), .int (nI 0), .int (nI 0), .null, .null, .null, .null, .null, .null, .null, .null, .null, .null, .int (nI 0), .null, .null, .null], bA g a_1 600 (fun _ => 0), bA g a_2 1400 (fun _ => 0), bA g a_3 32 (fun _ => 0), iA g a_4 64 (fun _ => 0), iA g a_5 8 (fun _ => 0), iA g a_6 8 (tk s_first 8), iA g a_7 64 (upd (tk s_cube 13) 13 (-2132889090))] rfl dX11_init_178 ?_
  refine j_w [oB h 11 [.ref a_1, .int (nI 0), .ref a_2, .int (nI 0), .ref a_3, .ref a_4, .ref a_5, .ref a_6, .null, .null, .null, .null, .null, .null, .int (nI 0), .int (nI 0), .int (nI 0), .int (nI 0), .int (nI 0), .int (nI 0), .int (nI 0), .int (nI 0), .int (nI 0), .null, .int (nI 0), .int (nI 0), .int (nI 0), .int (nI 0), .int (nI 0), .null, .null, .null, .null, .null, .null, .null, .null, .null, .null, .int (nI 0), .null, .null, .null], bA g a_1 600 (fun _ => 0), bA g a_2 1400 (fun _ => 0), bA g a_3 32 (fun _ => 0), iA g a_4 64 (fun _ => 0), iA g a_5 8 (fun _ => 0), iA g a_6 8 (tk s_first 8), iA g a_7 64 (tk s_cube 14)] (by rw [tk_step (show ((-2132889090) : Int32) = s_cube.getD 13 0 from rfl)]) ?_
  refine j_dup hX dX11_init_179 rfl ?_
  refine j_bipush hX (14) dX11_init_180 (by decide) ?_
  refine j_pc 182 rfl ?_
  refine j_ldc hX dX11_init_182 (List.mem_of_getElem? (i := 34) rfl) ?_
  refine j_iastN hX 7 14 rfl (by omega) (by omega) [oB h 11 [.ref a_1, .int (nI 0), .ref a_2, .int (nI 0), .ref a_3, .ref a_4, .ref a_5, .ref a_6, .null, .null, .null, .null, .null, .null, .int (nI 0), .int (nI 0), .int (nI 0), .int (nI 0), .int (nI 0), .int (nI 0), .int (nI 0), .int (nI 0), .int (nI 0), .null, .int (nI 0), .int (nI 0), .int (nI 0), .int (nI 0), .int (nI 0), .null, .null, .null, .null, .null, .null, .null, .null, .null, .null, .int (nI 0), .null, .null, .null], bA g a_1 600 (fun _ => 0), bA g a_2 1400 (fun _ => 0), bA g a_3 32 (fun _ => 0), iA g a_4 64 (fun _ => 0), iA g a_5 8 (fun _ => 0), iA g a_6 8 (tk s_first 8), iA g a_7 64 (upd (tk s_cube 14) 14 (-1680079193))] rfl dX11_init_184 ?_
  refine j_w [oB h 11 [.ref a_1, .int (nI 0), .ref a_2, .int (nI 0), .ref a_3, .ref a_4, .ref a_5, .ref a_6, .null, .null, .null, .null, .null, .null, .int (nI 0), .int (nI 0), .int (nI 0), .int (nI 0), .int (nI 0), .int (nI 0), .int (nI 0), .int (nI 0), .int (nI 0), .null, .int (nI 0), .int (nI 0), .int (nI 0), .int (nI 0), .int (nI 0), .null, .null, .null, .null, .null, .null, .null, .null, .null, .null, .int (nI 0), .null, .null, .null], bA g a_1 600 (fun _ => 0), bA g a_2 1400 (fun _ => 0), bA g a_3 32 (fun _ => 0), iA g a_4 64 (fun _ => 0), iA g a_5 8 (fun _ => 0), iA g a_6 8 (tk s_first 8), iA g a_7 64 (tk s_cube 15)] (by rw [tk_step (show ((-1680079193) : Int32) = s_cube.getD 14 0 from rfl)]) ?_
  refine j_dup hX dX11_init_185 rfl ?_
  refine j_bipush hX (15) dX11_init_186 (by decide) ?_
  refine j_ldc hX dX11_init_188 (List.mem_of_getElem? (i := 35) rfl) ?_
  refine j_iastN hX 7 15 rfl (by omega) (by omega) [oB h 11 [.ref a_1, .int (nI 0), .ref a_2, .int (nI 0), .ref a_3, .ref a_4, .ref a_5, .ref a_6, .null, .null, .null, .null, .null, .null, .int (nI 0), .int (nI 0), .int (nI 0), .int (nI 0), .int (nI 0), .int (nI 0), .int (nI 0), .int (nI 0), .int (nI 0), .null, .int (nI 0), .int (nI 0), .int (nI 0), .int (nI 0), .int (nI 0), .null, .null, .null, .null, .null, .null, .null, .null, .null, .null, .int (nI 0), .null, .null, .null], bA g a_1 600 (fun _ => 0), bA g a_2 1400 (fun _ => 0), bA g a_3 32 (fun _ => 0), iA g a_4 64 (fun _ => 0), iA g a_5 8 (fun _ => 0), iA g a_6 8 (tk s_first 8), iA g a_7 64 (upd (tk s_cube 15) 15 (-1046744716))] rfl dX11_init_190 ?_
  refine j_w [oB h 11 [.ref a_1, .int (nI 0), .ref a_2, .int (nI 0), .ref a_3, .ref a_4, .ref a_5, .ref a_6, .null, .null, .null, .null, .null, .null, .int (nI 0), .int (nI 0), .int (nI 0), .int (nI 0), .int (nI 0), .int (nI 0), .int (nI 0), .int (nI 0), .int (nI 0), .null, .int (nI 0), .int (nI 0), .int (nI 0), .int (nI 0), .int (nI 0), .null, .null, .null, .null, .null, .null, .null, .null, .null, .null, .int (nI 0), .null, .null, .null], bA g a_1 600 (fun _ => 0), bA g a_2 1400 (fun _ => 0), bA g a_3 32 (fun _ => 0), iA g a_4 64 (fun _ => 0), iA g a_5 8 (fun _ => 0), iA g a_6 8 (tk s_first 8), iA g a_7 64 (tk s_cube 16)] (by rw [tk_step (show ((-1046744716) : Int32) = s_cube.getD 15 0 from rfl)]) ?_
  refine j_dup hX dX11_init_191 rfl ?_
  refine j_bipush hX (16) dX11_init_192 (by decide) ?_
  refine j_pc 194 rfl ?_
  refine j_ldc hX dX11_init_194 (List.mem_of_getElem? (i := 36) rfl) ?_
  refine j_iastN hX 7 16 rfl (by omega) (by omega) [oB h 11 [.ref a_1, .int (nI 0), .ref a_2, .int (nI 0), .ref a_3, .ref a_4, .ref a_5, .ref a_6, .null, .null, .null, .null, .null, .null, .int (nI 0), .int (nI 0), .int (nI 0), .int (nI 0), .int (nI 0), .int (nI 0), .int (nI 0), .int (nI 0), .int (nI 0), .null, .int (nI 0), .int (nI 0), .int (nI 0), .int (nI 0), .int (nI 0), .null, .null, .null, .null, .null, .null, .null, .null, .null, .null, .int (nI 0), .null, .null, .null], bA g a_1 600 (fun _ => 0), bA g a_2 1400 (fun _ => 0), bA g a_3 32 (fun _ => 0), iA g a_4 64 (fun _ => 0), iA g a_5 8 (fun _ => 0), iA g a_6 8 (tk s_first 8), iA g a_7 64 (upd (tk s_cube 16) 16 (-459576895))] rfl dX11_init_196 ?_
  refine j_w [oB h 11 [.ref a_1, .int (nI 0), .ref a_2, .int (nI 0), .ref a_3, .ref a_4, .ref a_5, .ref a_6, .null, .null, .null, .null, .null, .null, .int (nI 0), .int (nI 0), .int (nI 0), .int (nI 0), .int (nI 0), .int (nI 0), .int (nI 0), .int (nI 0), .int (nI 0), .null, .int (nI 0), .int (nI 0), .int (nI 0), .int (nI 0), .int (nI 0), .null, .null, .null, .null, .null, .null, .null, .null, .null, .null, .int (nI 0), .null, .null, .null], bA g a_1 600 (fun _ => 0), bA g a_2 1400 (fun _ => 0), bA g a_3 32 (fun _ => 0), iA g a_4 64 (fun _ => 0), iA g a_5 8 (fun _ => 0), iA g a_6 8 (tk s_first 8), iA g a_7 64 (tk s_cube 17)] (by rw [tk_step (show ((-459576895) : Int32) = s_cube.getD 16 0 from rfl)]) ?_
  refine j_dup hX dX11_init_197 rfl ?_
  refine j_bipush hX (17) dX11_init_198 (by decide) ?_
  refine j_ldc hX dX11_init_200 (List.mem_of_getElem? (i := 37) rfl) ?_
  refine j_iastN hX 7 17 rfl (by omega) (by omega) [oB h 11 [.ref a_1, .int (nI 0), .ref a_2, .int (nI 0), .ref a_3, .ref a_4, .ref a_5, .ref a_6, .null, .null, .null, .null, .null, .null, .int (nI 0), .int (nI 0), .int (nI 0), .int (nI 0), .int (nI 0), .int (nI 0), .int (nI 0), .int (nI 0), .int (nI 0), .null, .int (nI 0), .int (nI 0), .int (nI 0), .int (nI 0), .int (nI 0), .null, .null, .null, .null, .null, .null, .null, .null, .null, .null, .int (nI 0), .null, .null, .null], bA g a_1 600 (fun _ => 0), bA g a_2 1400 (fun _ => 0), bA g a_3 32 (fun _ => 0), iA g a_4 64 (fun _ => 0), iA g a_5 8 (fun _ => 0), iA g a_6 8 (tk s_first 8), iA g a_7 64 (upd (tk s_cube 17) 17 (-272742522))] rfl dX11_init_202 ?_
  refine j_w [oB h 11 [.ref a_1, .int (nI 0), .ref a_2, .int (nI 0), .ref a_3, .ref a_4, .ref a_5, .ref a_6, .null, .null, .null, .null, .null, .null, .int (nI 0), .int (nI 0), .int (nI 0), .int (nI 0), .int (nI 0), .int (nI 0), .int (nI 0), .int (nI 0), .int (nI 0), .null, .int (nI 0), .int (nI 0), .int (nI 0), .int (nI 0), .int (nI 0), .null, .null, .null, .null, .null, .null, .null, .null, .null, .null, .int (nI 0), .null, .null, .null], bA g a_1 600 (fun _ => 0), bA g a_2 1400 (fun _ => 0), bA g a_3 32 (fun _ => 0), iA g a_4 64 (fun _ => 0), iA g a_5 8 (fun _ => 0), iA g a_6 8 (tk s_first 8), iA g a_7 64 (tk s_cube 18)] (by rw [tk_step (show ((-272742522) : Int32) = s_cube.getD 17 0 from rfl)]) ?_
  refine j_dup hX dX11_init_203 rfl ?_
  refine j_bipush hX (18) dX11_init_204 (by decide) ?_
  refine j_pc 206 rfl ?_
  refine j_ldc hX dX11_init_206 (List.mem_of_getElem? (i := 38) rfl) ?_
  refine j_iastN hX 7 18 rfl (by omega) (by omega) [oB h 11 [.ref a_1, .int (nI 0), .ref a_2, .int (nI 0), .ref a_3, .ref a_4, .ref a_5, .ref a_6, .null, .null, .null, .null, .null, .null, .int (nI 0), .int (nI 0), .int (nI 0), .int (nI 0), .int (nI 0), .int (nI 0), .int (nI 0), .int (nI 0), .int (nI 0), .null, .int (nI 0), .int (nI 0), .int (nI 0), .int (nI 0), .int (nI 0), .null, .null, .null, .null, .null, .null, .null, .null, .null, .null, .int (nI 0), .null, .null, .null], bA g a_1 600 (fun _ => 0), bA g a_2 1400 (fun _ => 0), bA g a_3 32 (fun _ => 0), iA g a_4 64 (fun _ => 0), iA g a_5 8 (fun _ => 0), iA g a_6 8 (tk s_first 8), iA g a_7 64 (upd (tk s_cube 18) 18 264347078)] rfl dX11_init_208 ?_
  refine j_w [oB h 11 [.ref a_1, .int (nI 0), .ref a_2, .int (nI 0), .ref a_3, .ref a_4, .ref a_5, .ref a_6, .null, .null, .null, .null, .null, .null, .int (nI 0), .int (nI 0), .int (nI 0), .int (nI 0), .int (nI 0), .int (nI 0), .int (nI 0), .int (nI 0), .int (nI 0), .null, .int (nI 0), .int (nI 0), .int (nI 0), .int (nI 0), .int (nI 0), .null, .null, .null, .null, .null, .null, .null, .null, .null, .null, .int (nI 0), .null, .null, .null], bA g a_1 600 (fun _ => 0), bA g a_2 1400 (fun _ => 0), bA g a_3 32 (fun _ => 0), iA g a_4 64 (fun _ => 0), iA g a_5 8 (fun _ => 0), iA g a_6 8 (tk s_first 8), iA g a_7 64 (tk s_cube 19)] (by rw [tk_step (show (264347078 : Int32) = s_cube.getD 18 0 from rfl)]) ?_
  refine j_dup hX dX11_init_209 rfl ?_
  refine j_bipush hX (19) dX11_init_210 (by decide) ?_
  refine j_ldc hX dX11_init_212 (List.mem_of_getElem? (i := 39) rfl) ?_
  refine j_iastN hX 7 19 rfl (by omega) (by omega) [oB h 11 [.ref a_1, .int (nI 0), .ref a_2, .int (nI 0), .ref a_3, .ref a_4, .ref a_5, .ref a_6, .null, .null, .null, .null, .null, .null, .int (nI 0), .int (nI 0), .int (nI 0), .int (nI 0), .int (nI 0), .int (nI 0), .int (nI 0), .int (nI 0), .int (nI 0), .null, .int (nI 0), .int (nI 0), .int (nI 0), .int (nI 0), .int (nI 0), .null, .null, .null, .null, .null, .null, .null, .null, .null, .null, .int (nI 0), .null, .null, .null], bA g a_1 600 (fun _ => 0), bA g a_2 1400 (fun _ => 0), bA g a_3 32 (fun _ => 0), iA g a_4 64 (fun _ => 0), iA g a_5 8 (fun _ => 0), iA g a_6 8 (tk s_first 8), iA g a_7 64 (upd (tk s_cube 19) 19 604807628)] rfl dX11_init_214 ?_
  refine j_w [oB h 11 [.ref a_1, .int (nI 0), .ref a_2, .int (nI 0), .ref a_3, .ref a_4, .ref a_5, .ref a_6, .null, .null, .null, .null, .null, .null, .int (nI 0), .int (nI 0), .int (nI 0), .int (nI 0), .int (nI 0), .int (nI 0), .int (nI 0), .int (nI 0), .int (nI 0), .null, .int (nI 0), .int (nI 0), .int (nI 0), .int (nI 0), .int (nI 0), .null, .null, .null, .null, .null, .null, .null, .null, .null, .null, .int (nI 0), .null, .null, .null], bA g a_1 600 (fun _ => 0), bA g a_2 1400 (fun _ => 0), bA g a_3 32 (fun _ => 0), iA g a_4 64 (fun _ => 0), iA g a_5 8 (fun _ => 0), iA g a_6 8 (tk s_first 8), iA g a_7 64 (tk s_cube 20)] (by rw [tk_step (show (604807628 : Int32) = s_cube.getD 19 0 from rfl)]) ?_
  refine j_dup hX dX11_init_215 rfl ?_
  refine j_bipush hX (20) dX11_init_216 (by decide) ?_
  refine j_pc 218 rfl ?_
  refine j_ldc hX dX11_init_218 (List.mem_of_getElem? (i := 40) rfl) ?_
  refine j_iastN hX 7 20 rfl (by omega) (by omega) [oB h 11 [.ref a_1, .int (nI 0), .ref a_2, .int (nI 0), .ref a_3, .ref a_4, .ref a_5, .ref a_6, .null, .null, .null, .null, .null, .null, .int (nI 0), .int (nI 0), .int (nI 0), .int (nI 0), .int (nI 0), .int (nI 0), .int (nI 0), .int (nI 0), .int (nI 0), .null, .int (nI 0), .int (nI 0), .int (nI 0), .int (nI 0), .int (nI 0), .null, .null, .null, .null, .null, .null, .null, .null, .null, .null, .int (nI 0), .null, .null, .null], bA g a_1 600 (fun _ => 0), bA g a_2 1400 (fun _ => 0), bA g a_3 32 (fun _ => 0), iA g a_4 64 (fun _ => 0), iA g a_5 8 (fun _ => 0), iA g a_6 8 (tk s_first 8), iA g a_7 64 (upd (tk s_cube 20) 20 770255983)] rfl dX11_init_220 ?_
  refine j_w [oB h 11 [.ref a_1, .int (nI 0), .ref a_2, .int (nI 0), .ref a_3, .ref a_4, .ref a_5, .ref a_6, .null, .null, .null, .null, .null, .null, .int (nI 0), .int (nI 0), .int (nI 0), .int (nI 0), .int (nI 0), .int (nI 0), .int (nI 0), .int (nI 0), .int (nI 0), .null, .int (nI 0), .int (nI 0), .int (nI 0), .int (nI 0), .int (nI 0), .null, .null, .null, .null, .null, .null, .null, .null, .null, .null, .int (nI 0), .null, .null, .null], bA g a_1 600 (fun _ => 0), bA g a_2 1400 (fun _ => 0), bA g a_3 32 (fun _ => 0), iA g a_4 64 (fun _ => 0), iA g a_5 8 (fun _ => 0), iA g a_6 8 (tk s_first 8), iA g a_7 64 (tk s_cube 21)] (by rw [tk_step (show (770255983 : Int32) = s_cube.getD 20 0 from rfl)]) ?_
  refine j_dup hX dX11_init_221 rfl ?_
  refine j_bipush hX (21) dX11_init_222 (by decide) ?_
  refine j_ldc hX dX11_init_224 (List.mem_of_getElem? (i := 41) rfl) ?_
  refine j_iastN hX 7 21 rfl (by omega) (by omega) [oB h 11 [.ref a_1, .int (nI 0), .ref a_2, .int (nI 0), .ref a_3, .ref a_4, .ref a_5, .ref a_6, .null, .null, .null, .null, .null, .null, .int (nI 0), .int (nI 0), .int (nI 0), .int (nI 0), .int (nI 0), .int (nI 0), .int (nI 0), .int (nI 0), .int (nI 0), .null, .int (nI 0), .int (nI 0), .int (nI 0), .int (nI 0), .int (nI 0), .null, .null, .null, .null, .null, .null, .null, .null, .null, .null, .int (nI 0), .null, .null, .null], bA g a_1 600 (fun _ => 0), bA g a_2 1400 (fun _ => 0), bA g a_3 32 (fun _ => 0), iA g a_4 64 (fun _ => 0), iA g a_5 8 (fun _ => 0), iA g a_6 8 (tk s_first 8), iA g a_7 64 (upd (tk s_cube 21) 21 1249150122)] rfl dX11_init_226 ?_
  refine j_w [oB h 11 [.ref a_1, .int (nI 0), .ref a_2, .int (nI 0), .ref a_3, .ref a_4, .ref a_5, .ref a_6, .null, .null, .null, .null, .null, .null, .int (nI 0), .int (nI 0), .int (nI 0), .int (nI 0), .int (nI 0), .int (nI 0), .int (nI 0), .int (nI 0), .int (nI 0), .null, .int (nI 0), .int (nI 0), .int (nI 0), .int (nI 0), .int (nI 0), .null, .null, .null, .null, .null, .null, .null, .null, .null, .null, .int (nI 0), .null, .null, .null], bA g a_1 600 (fun _ => 0), bA g a_2 1400 (fun _ => 0), bA g a_3 32 (fun _ => 0), iA g a_4 64 (fun _ => 0), iA g a_5 8 (fun _ => 0), iA g a_6 8 (tk s_first 8), iA g a_7 64 (tk s_cube 22)] (by rw [tk_step (show (1249150122 : Int32) = s_cube.getD 21 0 from rfl)]) ?_
  refine j_dup hX dX11_init_227 rfl ?_
  refine j_bipush hX (22) dX11_init_228 (by decide) ?_
  refine j_pc 230 rfl ?_
  refine j_ldc hX dX11_init_230 (List.mem_of_getElem? (i := 42) rfl) ?_
  refine j_iastN hX 7 22 rfl (by omega) (by omega) [oB h 11 [.ref a_1, .int (nI 0), .ref a_2, .int (nI 0), .ref a_3, .ref a_4, .ref a_5, .ref a_6, .null, .null, .null, .null, .null, .null, .int (nI 0), .int (nI 0), .int (nI 0), .int (nI 0), .int (nI 0), .int (nI 0), .int (nI 0), .int (nI 0), .int (nI 0), .null, .int (nI 0), .int (nI 0), .int (nI 0), .int (nI 0), .int (nI 0), .null, .null, .null, .null, .null, .null, .null, .null, .null, .null, .int (nI 0), .null, .null, .null], bA g a_1 600 (fun _ => 0), bA g a_2 1400 (fun _ => 0), bA g a_3 32 (fun _ => 0), iA g a_4 64 (fun _ => 0), iA g a_5 8 (fun _ => 0), iA g a_6 8 (tk s_first 8), iA g a_7 64 (upd (tk s_cube 22) 22 1555081692)] rfl dX11_init_232 ?_
  refine j_w [oB h 11 [.ref a_1, .int (nI 0), .ref a_2, .int (nI 0), .ref a_3, .ref a_4, .ref a_5, .ref a_6, .null, .null, .null, .null, .null, .null, .int (nI 0), .int (nI 0), .int (nI 0), .int (nI 0), .int (nI 0), .int (nI 0), .int (nI 0), .int (nI 0), .int (nI 0), .null, .int (nI 0), .int (nI 0), .int (nI 0), .int (nI 0), .int (nI 0), .null, .null, .null, .null, .null, .null, .null, .null, .null, .null, .int (nI 0), .null, .null, .null], bA g a_1 600 (fun _ => 0), bA g a_2 1400 (fun _ => 0), bA g a_3 32 (fun _ => 0), iA g a_4 64 (fun _ => 0), iA g a_5 8 (fun _ => 0), iA g a_6 8 (tk s_first 8), iA g a_7 64 (tk s_cube 23)] (by rw [tk_step (show (1555081692 : Int32) = s_cube.getD 22 0 from rfl)]) ?_
  refine j_dup hX dX11_init_233 rfl ?_
  refine j_bipush hX (23) dX11_init_234 (by decide) ?_
  refine j_ldc hX dX11_init_236 (List.mem_of_getElem? (i := 43) rfl) ?_
  refine j_iastN hX 7 23 rfl (by omega) (by omega) [oB h 11 [.ref a_1, .int (nI 0), .ref a_2, .int (nI 0), .ref a_3, .ref a_4, .ref a_5, .ref a_6, .null, .null, .null, .null, .null, .null, .int (nI 0), .int (nI 0), .int (nI 0), .int (nI 0), .int (nI 0), .int (nI 0), .int (nI 0), .int (nI 0), .int (nI 0), .null, .int (nI 0), .int (nI 0), .int (nI 0), .int (nI 0), .int (nI 0), .null, .null, .null, .null, .null, .null, .null, .null, .null, .null, .int (nI 0), .null, .null, .null], bA g a_1 600 (fun _ => 0), bA g a_2 1400 (fun _ => 0), bA g a_3 32 (fun _ => 0), iA g a_4 64 (fun _ => 0), iA g a_5 8 (fun _ => 0), iA g a_6 8 (tk s_first 8), iA g a_7 64 (upd (tk s_cube 23) 23 1996064986)] rfl dX11_init_238 ?_
  refine j_w [oB h 11 [.ref a_1, .int (nI 0), .ref a_2, .int (nI 0), .ref a_3, .ref a_4, .ref a_5, .ref a_6, .null, .null, .null, .null, .null, .null, .int (nI 0), .int (nI 0), .int (nI 0), .int (nI 0), .int (nI 0), .int (nI 0), .int (nI 0), .int (nI 0), .int (nI 0), .null, .int (nI 0), .int (nI 0), .int (nI 0), .int (nI 0), .int (nI 0), .null, .null, .null, .null, .null, .null, .null, .null, .null, .null, .int (nI 0), .null, .null, .null], bA g a_1 600 (fun _ => 0), bA g a_2 1400 (fun _ => 0), bA g a_3 32 (fun _ => 0), iA g a_4 64 (fun _ => 0), iA g a_5 8 (fun _ => 0), iA g a_6 8 (tk s_first 8), iA g a_7 64 (tk s_cube 24)] (by rw [tk_step (show (1996064986 : Int32) = s_cube.getD 23 0 from rfl)]) ?_
  refine j_dup hX dX11_init_239 rfl ?_
  refine j_bipush hX (24) dX11_init_240 (by decide) ?_
  refine j_pc 242 rfl ?_
  refine j_ldc hX dX11_init_242 (List.mem_of_getElem? (i := 44) rfl) ?_
  refine j_iastN hX 7 24 rfl (by omega) (by omega) [oB h 11 [.ref a_1, .int (nI 0), .ref a_2, .int (nI 0), .ref a_3, .ref a_4, .ref a_5, .ref a_6, .null, .null, .null, .null, .null, .null, .int (nI 0), .int (nI 0), .int (nI 0), .int (nI 0), .int (nI 0), .int (nI 0), .int (nI 0), .int (nI 0), .int (nI 0), .null, .int (nI 0), .int (nI 0), .int (nI 0), .int (nI 0), .int (nI 0), .null, .null, .null, .null, .null, .null, .null, .null, .null, .null, .int (nI 0), .null, .null, .null], bA g a_1 600 (fun _ => 0), bA g a_2 1400 (fun _ => 0), bA g a_3 32 (fun _ => 0), iA g a_4 64 (fun _ => 0), iA g a_5 8 (fun _ => 0), iA g a_6 8 (tk s_first 8), iA g a_7 64 (upd (tk s_cube 24) 24 (-1740746414))] rfl dX11_init_244 ?_
  refine j_w [oB h 11 [.ref a_1, .int (nI 0), .ref a_2, .int (nI 0), .ref a_3, .ref a_4, .ref a_5, .ref a_6, .null, .null, .null, .null, .null, .null, .int (nI 0), .int (nI 0), .int (nI 0), .int (nI 0), .int (nI 0), .int (nI 0), .int (nI 0), .int (nI 0), .int (nI 0), .null, .int (nI 0), .int (nI 0), .int (nI 0), .int (nI 0), .int (nI 0), .null, .null, .null, .null, .null, .null, .null, .null, .null, .null, .int (nI 0), .null, .null, .null], bA g a_1 600 (fun _ => 0), bA g a_2 1400 (fun _ => 0), bA g a_3 32 (fun _ => 0), iA g a_4 64 (fun _ => 0), iA g a_5 8 (fun _ => 0), iA g a_6 8 (tk s_first 8), iA g a_7 64 (tk s_cube 25)] (by rw [tk_step (show ((-1740746414) : Int32) = s_cube.getD 24 0 from rfl)]) ?_
  refine j_dup hX dX11_init_245 rfl ?_
  refine j_bipush hX (25) dX11_init_246 (by decide) ?_
  refine j_ldc hX dX11_init_248 (List.mem_of_getElem? (i := 45) rfl) ?_
  refine j_iastN hX 7 25 rfl (by omega) (by omega) [oB h 11 [.ref a_1, .int (nI 0), .ref a_2, .int (nI 0), .ref a_3, .ref a_4, .ref a_5, .ref a_6, .null, .null, .null, .null, .null, .null, .int (nI 0), .int (nI 0), .int (nI 0), .int (nI 0), .int (nI 0), .int (nI 0), .int (nI 0), .int (nI 0), .int (nI 0), .null, .int (nI 0), .int (nI 0), .int (nI 0), .int (nI 0), .int (nI 0), .null, .null, .null, .null, .null, .null, .null, .null, .null, .null, .int (nI 0), .null, .null, .null], bA g a_1 600 (fun _ => 0), bA g a_2 1400 (fun _ => 0), bA g a_3 32 (fun _ => 0), iA g a_4 64 (fun _ => 0), iA g a_5 8 (fun _ => 0), iA g a_6 8 (tk s_first 8), iA g a_7 64 (upd (tk s_cube 25) 25 (-1473132947))] rfl dX11_init_250 ?_
  refine j_w [oB h 11 [.ref a_1, .int (nI 0), .ref a_2, .int (nI 0), .ref a_3, .ref a_4, .ref a_5, .ref a_6, .null, .null, .null, .null, .null, .null, .int (nI 0), .int (nI 0), .int (nI 0), .int (nI 0), .int (nI 0), .int (nI 0), .int (nI 0), .int (nI 0), .int (nI 0), .null, .int (nI 0), .int (nI 0), .int (nI 0), .int (nI 0), .int (nI 0), .null, .null, .null, .null, .null, .null, .null, .null, .null, .null, .int (nI 0), .null, .null, .null], bA g a_1 600 (fun _ => 0), bA g a_2 1400 (fun _ => 0), bA g a_3 32 (fun _ => 0), iA g a_4 64 (fun _ => 0), iA g a_5 8 (fun _ => 0), iA g a_6 8 (tk s_first 8), iA g a_7 64 (tk s_cube 26)] (by rw [tk_step (show ((-1473132947) : Int32) = s_cube.getD 25 0 from rfl)]) ?_
  refine j_dup hX dX11_init_251 rfl ?_
  refine j_bipush hX (26) dX11_init_252 (by decide) ?_
  refine j_pc 254 rfl ?_
  refine j_ldc hX dX11_init_254 (List.mem_of_getElem? (i := 46) rfl) ?_
  refine j_iastN hX 7 26 rfl (by omega) (by omega) [oB h 11 [.ref a_1, .int (nI 0), .ref a_2, .int (nI 0), .ref a_3, .ref a_4, .ref a_5, .ref a_6, .null, .null, .null, .null, .null, .null, .int (nI 0), .int (nI 0), .int (nI 0), .int (nI 0), .int (nI 0), .int (nI 0), .int (nI 0), .int (nI 0), .int (nI 0), .null, .int (nI 0), .int (nI 0), .int (nI 0), .int (nI 0), .int (nI 0), .null, .null, .null, .null, .null, .null, .null, .null, .null, .null, .int (nI 0), .null, .null, .null], bA g a_1 600 (fun _ => 0), bA g a_2 1400 (fun _ => 0), bA g a_3 32 (fun _ => 0), iA g a_4 64 (fun _ => 0), iA g a_5 8 (fun _ => 0), iA g a_6 8 (tk s_first 8), iA g a_7 64 (upd (tk s_cube 26) 26 (-1341970488))] rfl dX11_init_256 ?_
  refine j_w [oB h 11 [.ref a_1, .int (nI 0), .ref a_2, .int (nI 0), .ref a_3, .ref a_4, .ref a_5, .ref a_6, .null, .null, .null, .null, .null, .null, .int (nI 0), .int (nI 0), .int (nI 0), .int (nI 0), .int (nI 0), .int (nI 0), .int (nI 0), .int (nI 0), .int (nI 0), .null, .int (nI 0), .int (nI 0), .int (nI 0), .int (nI 0), .int (nI 0), .null, .null, .null, .null, .null, .null, .null, .null, .null, .null, .int (nI 0), .null, .null, .null], bA g a_1 600 (fun _ => 0), bA g a_2 1400 (fun _ => 0), bA g a_3 32 (fun _ => 0), iA g a_4 64 (fun _ => 0), iA g a_5 8 (fun _ => 0), iA g a_6 8 (tk s_first 8), iA g a_7 64 (tk s_cube 27)] (by rw [tk_step (show ((-1341970488) : Int32) = s_cube.getD 26 0 from rfl)]) ?_
  refine j_dup hX dX11_init_257 rfl ?_
  refine j_bipush hX (27) dX11_init_258 (by decide) ?_
  refine j_ldc hX dX11_init_260 (List.mem_of_getElem? (i := 47) rfl) ?_
  refine j_iastN hX 7 27 rfl (by omega) (by omega) [oB h 11 [.ref a_1, .int (nI 0), .ref a_2, .int (nI 0), .ref a_3, .ref a_4, .ref a_5, .ref a_6, .null, .null, .null, .null, .null, .null, .int (nI 0), .int (nI 0), .int (nI 0), .int (nI 0), .int (nI 0), .int (nI 0), .int (nI 0), .int (nI 0), .int (nI 0), .null, .int (nI 0), .int (nI 0), .int (nI 0), .int (nI 0), .int (nI 0), .null, .null, .null, .null, .null, .null, .null, .null, .null, .null, .int (nI 0), .null, .null, .null], bA g a_1 600 (fun _ => 0), bA g a_2 1400 (fun _ => 0), bA g a_3 32 (fun _ => 0), iA g a_4 64 (fun _ => 0), iA g a_5 8 (fun _ => 0), iA g a_6 8 (tk s_first 8), iA g a_7 64 (upd (tk s_cube 27) 27 (-1084653625))] rfl dX11_init_262 ?_
  refine j_w [oB h 11 [.ref a_1, .int (nI 0), .ref a_2, .int (nI 0), .ref a_3, .ref a_4, .ref a_5, .ref a_6, .null, .null, .null, .null, .null, .null, .int (nI 0), .int (nI 0), .int (nI 0), .int (nI 0), .int (nI 0), .int (nI 0), .int (nI 0), .int (nI 0), .int (nI 0), .null, .int (nI 0), .int (nI 0), .int (nI 0), .int (nI 0), .int (nI 0), .null, .null, .null, .null, .null, .null, .null, .null, .null, .null, .int (nI 0), .null, .null, .null], bA g a_1 600 (fun _ => 0), bA g a_2 1400 (fun _ => 0), bA g a_3 32 (fun _ => 0), iA g a_4 64 (fun _ => 0), iA g a_5 8 (fun _ => 0), iA g a_6 8 (tk s_first 8), iA g a_7 64 (tk s_cube 28)] (by rw [tk_step (show ((-1084653625) : Int32) = s_cube.getD 27 0 from rfl)]) ?_
  refine j_dup hX dX11_init_263 rfl ?_
  refine j_bipush hX (28) dX11_init_264 (by decide) ?_
  refine j_pc 266 rfl ?_
  refine j_ldc hX dX11_init_266 (List.mem_of_getElem? (i := 48) rfl) ?_
  refine j_iastN hX 7 28 rfl (by omega) (by omega) [oB h 11 [.ref a_1, .int (nI 0), .ref a_2, .int (nI 0), .ref a_3, .ref a_4, .ref a_5, .ref a_6, .null, .null, .null, .null, .null, .null, .int (nI 0), .int (nI 0), .int (nI 0), .int (nI 0), .int (nI 0), .int (nI 0), .int (nI 0), .int (nI 0), .int (nI 0), .null, .int (nI 0), .int (nI 0), .int (nI 0), .int (nI 0), .int (nI 0), .null, .null, .null, .null, .null, .null, .null, .null, .null, .null, .int (nI 0), .null, .null, .null], bA g a_1 600 (fun _ => 0), bA g a_2 1400 (fun _ => 0), bA g a_3 32 (fun _ => 0), iA g a_4 64 (fun _ => 0), iA g a_5 8 (fun _ => 0), iA g a_6 8 (tk s_first 8), iA g a_7 64 (upd (tk s_cube 28) 28 (-958395405))] rfl dX11_init_268 ?_
  refine j_w [oB h 11 [.ref a_1, .int (nI 0), .ref a_2, .int (nI 0), .ref a_3, .ref a_4, .ref a_5, .ref a_6, .null, .null, .null, .null, .null, .null, .int (nI 0), .int (nI 0), .int (nI 0), .int (nI 0), .int (nI 0), .int (nI 0), .int (nI 0), .int (nI 0), .int (nI 0), .null, .int (nI 0), .int (nI 0), .int (nI 0), .int (nI 0), .int (nI 0), .null, .null, .null, .null, .null, .null, .null, .null, .null, .null, .int (nI 0), .null, .null, .null], bA g a_1 600 (fun _ => 0), bA g a_2 1400 (fun _ => 0), bA g a_3 32 (fun _ => 0), iA g a_4 64 (fun _ => 0), iA g a_5 8 (fun _ => 0), iA g a_6 8 (tk s_first 8), iA g a_7 64 (tk s_cube 29)] (by rw [tk_step (show ((-958395405) : Int32) = s_cube.getD 28 0 from rfl)]) ?_
  refine j_dup hX dX11_init_269 rfl ?_
  refine j_bipush hX (29) dX11_init_270 (by decide) ?_
  refine j_ldc hX dX11_init_272 (List.mem_of_getElem? (i := 49) rfl) ?_
  refine j_iastN hX 7 29 rfl (by omega) (by omega) [oB h 11 [.ref a_1, .int (nI 0), .ref a_2, .int (nI 0), .ref a_3, .ref a_4, .ref a_5, .ref a_6, .null, .null, .null, .null, .null, .null, .int (nI 0), .int (nI 0), .int (nI 0), .int (nI 0), .int (nI 0), .int (nI 0), .int (nI 0), .int (nI 0), .int (nI 0), .null, .int (nI 0), .int (nI 0), .int (nI 0), .int (nI 0), .int (nI 0), .null, .null, .null, .null, .null, .null, .null, .null, .null, .null, .int (nI 0), .null, .null, .null], bA g a_1 600 (fun _ => 0), bA g a_2 1400 (fun _ => 0), bA g a_3 32 (fun _ => 0), iA g a_4 64 (fun _ => 0), iA g a_5 8 (fun _ => 0), iA g a_6 8 (tk s_first 8), iA g a_7 64 (upd (tk s_cube 29) 29 (-710438585))] rfl dX11_init_274 ?_
  refine j_w [oB h 11 [.ref a_1, .int (nI 0), .ref a_2, .int (nI 0), .ref a_3, .ref a_4, .ref a_5, .ref a_6, .null, .null, .null, .null, .null, .null, .int (nI 0), .int (nI 0), .int (nI 0), .int (nI 0), .int (nI 0), .int (nI 0), .int (nI 0), .int (nI 0), .int (nI 0), .null, .int (nI 0), .int (nI 0), .int (nI 0), .int (nI 0), .int (nI 0), .null, .null, .null, .null, .null, .null, .null, .null, .null, .null, .int (nI 0), .null, .null, .null], bA g a_1 600 (fun _ => 0), bA g a_2 1400 (fun _ => 0), bA g a_3 32 (fun _ => 0), iA g a_4 64 (fun _ => 0), iA g a_5 8 (fun _ => 0), iA g a_6 8 (tk s_first 8), iA g a_7 64 (tk s_cube 30)] (by rw [tk_step (show ((-710438585) : Int32) = s_cube.getD 29 0 from rfl)]) ?_
  refine j_dup hX dX11_init_275 rfl ?_
  refine j_bipush hX (30) dX11_init_276 (by decide) ?_
  refine j_pc 278 rfl ?_
  refine j_ldc hX dX11_init_278 (List.mem_of_getElem? (i := 50) rfl) ?_
  refine j_iastN hX 7 30 rfl (by omega) (by omega) [oB h 11 [.ref a_1, .int (nI 0), .ref a_2, .int (nI 0), .ref a_3, .ref a_4, .ref a_5, .ref a_6, .null, .null, .null, .null, .null, .null, .int (nI 0), .int (nI 0), .int (nI 0), .int (nI 0), .int (nI 0), .int (nI 0), .int (nI 0), .int (nI 0), .int (nI 0), .null, .int (nI 0), .int (nI 0), .int (nI 0), .int (nI 0), .int (nI 0), .null, .null, .null, .null, .null, .null, .null, .null, .null, .null, .int (nI 0), .null, .null, .null], bA g a_1 600 (fun _ => 0), bA g a_2 1400 (fun _ => 0), bA g a_3 32 (fun _ => 0), iA g a_4 64 (fun _ => 0), iA g a_5 8 (fun _ => 0), iA g a_6 8 (tk s_first 8), iA g a_7 64 (upd (tk s_cube 30) 30 113926993)] rfl dX11_init_280 ?_
  refine j_w [oB h 11 [.ref a_1, .int (nI 0), .ref a_2, .int (nI 0), .ref a_3, .ref a_4, .ref a_5, .ref a_6, .null, .null, .null, .null, .null, .null, .int (nI 0), .int (nI 0), .int (nI 0), .int (nI 0), .int (nI 0), .int (nI 0), .int (nI 0), .int (nI 0), .int (nI 0), .null, .int (nI 0), .int (nI 0), .int (nI 0), .int (nI 0), .int (nI 0), .null, .null, .null, .null, .null, .null, .null, .null, .null, .null, .int (nI 0), .null, .null, .null], bA g a_1 600 (fun _ => 0), bA g a_2 1400 (fun _ => 0), bA g a_3 32 (fun _ => 0), iA g a_4 64 (fun _ => 0), iA g a_5 8 (fun _ => 0), iA g a_6 8 (tk s_first 8), iA g a_7 64 (tk s_cube 31)] (by rw [tk_step (show (113926993 : Int32) = s_cube.getD 30 0 from rfl)]) ?_
  refine j_dup hX dX11_init_281 rfl ?_
  refine j_bipush hX (31) dX11_init_282 (by decide) ?_
  refine j_ldc hX dX11_init_284 (List.mem_of_getElem? (i := 51) rfl) ?_
  refine j_iastN hX 7 31 rfl (by omega) (by omega) [oB h 11 [.ref a_1, .int (nI 0), .ref a_2, .int (nI 0), .ref a_3, .ref a_4, .ref a_5, .ref a_6, .null, .null, .null, .null, .null, .null, .int (nI 0), .int (nI 0), .int (nI 0), .int (nI 0), .int (nI 0), .int (nI 0), .int (nI 0), .int (nI 0), .int (nI 0), .null, .int (nI 0), .int (nI 0), .int (nI 0), .int (nI 0), .int (nI 0), .null, .null, .null, .null, .null, .null, .null, .null, .null, .null, .int (nI 0), .null, .null, .null], bA g a_1 600 (fun _ => 0), bA g a_2 1400 (fun _ => 0), bA g a_3 32 (fun _ => 0), iA g a_4 64 (fun _ => 0), iA g a_5 8 (fun _ => 0), iA g a_6 8 (tk s_first 8), iA g a_7 64 (upd (tk s_cube 31) 31 338241895)] rfl dX11_init_286 ?_
  refine j_w [oB h 11 [.ref a_1, .int (nI 0), .ref a_2, .int (nI 0), .ref a_3, .ref a_4, .ref a_5, .ref a_6, .null, .null, .null, .null, .null, .null, .int (nI 0), .int (nI 0), .int (nI 0), .int (nI 0), .int (nI 0), .int (nI 0), .int (nI 0), .int (nI 0), .int (nI 0), .null, .int (nI 0), .int (nI 0), .int (nI 0), .int (nI 0), .int (nI 0), .null, .null, .null, .null, .null, .null, .null, .null, .null, .null, .int (nI 0), .null, .null, .null], bA g a_1 600 (fun _ => 0), bA g a_2 1400 (fun _ => 0), bA g a_3 32 (fun _ => 0), iA g a_4 64 (fun _ => 0), iA g a_5 8 (fun _ => 0), iA g a_6 8 (tk s_first 8), iA g a_7 64 (tk s_cube 32)] (by rw [tk_step (show (338241895 : Int32) = s_cube.getD 31 0 from rfl)]) ?_
  refine j_dup hX dX11_init_287 rfl ?_
  refine j_bipush hX (32) dX11_init_288 (by decide) ?_
  refine j_pc 290 rfl ?_
  refine j_ldc hX dX11_init_290 (List.mem_of_getElem? (i := 52) rfl) ?_
  refine j_iastN hX 7 32 rfl (by omega) (by omega) [oB h 11 [.ref a_1, .int (nI 0), .ref a_2, .int (nI 0), .ref a_3, .ref a_4, .ref a_5, .ref a_6, .null, .null, .null, .null, .null, .null, .int (nI 0), .int (nI 0), .int (nI 0), .int (nI 0), .int (nI 0), .int (nI 0), .int (nI 0), .int (nI 0), .int (nI 0), .null, .int (nI 0), .int (nI 0), .int (nI 0), .int (nI 0), .int (nI 0), .null, .null, .null, .null, .null, .null, .null, .null, .null, .null, .int (nI 0), .null, .null, .null], bA g a_1 600 (fun _ => 0), bA g a_2 1400 (fun _ => 0), bA g a_3 32 (fun _ => 0), iA g a_4 64 (fun _ => 0), iA g a_5 8 (fun _ => 0), iA g a_6 8 (tk s_first 8), iA g a_7 64 (upd (tk s_cube 32) 32 666307205)] rfl dX11_init_292 ?_
  refine j_w [oB h 11 [.ref a_1, .int (nI 0), .ref a_2, .int (nI 0), .ref a_3, .ref a_4, .ref a_5, .ref a_6, .null, .null, .null, .null, .null, .null, .int (nI 0), .int (nI 0), .int (nI 0), .int (nI 0), .int (nI 0), .int (nI 0), .int (nI 0), .int (nI 0), .int (nI 0), .null, .int (nI 0), .int (nI 0), .int (nI 0), .int (nI 0), .int (nI 0), .null, .null, .null, .null, .null, .null, .null, .null, .null, .null, .int (nI 0), .null, .null, .null], bA g a_1 600 (fun _ => 0), bA g a_2 1400 (fun _ => 0), bA g a_3 32 (fun _ => 0), iA g a_4 64 (fun _ => 0), iA g a_5 8 (fun _ => 0), iA g a_6 8 (tk s_first 8), iA g a_7 64 (tk s_cube 33)] (by rw [tk_step (show (666307205 : Int32) = s_cube.getD 32 0 from rfl)]) ?_
  refine j_dup hX dX11_init_293 rfl ?_
  refine j_bipush hX (33) dX11_init_294 (by decide) ?_
  refine j_ldc hX dX11_init_296 (List.mem_of_getElem? (i := 53) rfl) ?_
  refine j_iastN hX 7 33 rfl (by omega) (by omega) [oB h 11 [.ref a_1, .int (nI 0), .ref a_2, .int (nI 0), .ref a_3, .ref a_4, .ref a_5, .ref a_6, .null, .null, .null, .null, .null, .null, .int (nI 0), .int (nI 0), .int (nI 0), .int (nI 0), .int (nI 0), .int (nI 0), .int (nI 0), .int (nI 0), .int (nI 0), .null, .int (nI 0), .int (nI 0), .int (nI 0), .int (nI 0), .int (nI 0), .null, .null, .null, .null, .null, .null, .null, .null, .null, .null, .int (nI 0), .null, .null, .null], bA g a_1 600 (fun _ => 0), bA g a_2 1400 (fun _ => 0), bA g a_3 32 (fun _ => 0), iA g a_4 64 (fun _ => 0), iA g a_5 8 (fun _ => 0), iA g a_6 8 (tk s_first 8), iA g a_7 64 (upd (tk s_cube 33) 33 773529912)] rfl dX11_init_298 ?_
  refine j_w [oB h 11 [.ref a_1, .int (nI 0), .ref a_2, .int (nI 0), .ref a_3, .ref a_4, .ref a_5, .ref a_6, .null, .null, .null, .null, .null, .null, .int (nI 0), .int (nI 0), .int (nI 0), .int (nI 0), .int (nI 0), .int (nI 0), .int (nI 0), .int (nI 0), .int (nI 0), .null, .int (nI 0), .int (nI 0), .int (nI 0), .int (nI 0), .int (nI 0), .null, .null, .null, .null, .null, .null, .null, .null, .null, .null, .int (nI 0), .null, .null, .null], bA g a_1 600 (fun _ => 0), bA g a_2 1400 (fun _ => 0), bA g a_3 32 (fun _ => 0), iA g a_4 64 (fun _ => 0), iA g a_5 8 (fun _ => 0), iA g a_6 8 (tk s_first 8), iA g a_7 64 (tk s_cube 34)] (by rw [tk_step (show (773529912 : Int32) = s_cube.getD 33 0 from rfl)]) ?_
  refine j_dup hX dX11_init_299 rfl ?_
  refine j_bipush hX (34) dX11_init_300 (by decide) ?_
  refine j_pc 302 rfl ?_
  refine j_ldc hX dX11_init_302 (List.mem_of_getElem? (i := 54) rfl) ?_
  refine j_iastN hX 7 34 rfl (by omega) (by omega) [oB h 11 [.ref a_1, .int (nI 0), .ref a_2, .int (nI 0), .ref a_3, .ref a_4, .ref a_5, .ref a_6, .null, .null, .null, .null, .null, .null, .int (nI 0), .int (nI 0), .int (nI 0), .int (nI 0), .int (nI 0), .int (nI 0), .int (nI 0), .int (nI 0), .int (nI 0), .null, .int (nI 0), .int (nI 0), .int (nI 0), .int (nI 0), .int (nI 0), .null, .null, .null, .null, .null, .null, .null, .null, .null, .null, .int (nI 0), .null, .null, .null], bA g a_1 600 (fun _ => 0), bA g a_2 1400 (fun _ => 0), bA g a_3 32 (fun _ => 0), iA g a_4 64 (fun _ => 0), iA g a_5 8 (fun _ => 0), iA g a_6 8 (tk s_first 8), iA g a_7 64 (upd (tk s_cube 34) 34 1294757372)] rfl dX11_init_304 ?_
  refine j_w [oB h 11 [.ref a_1, .int (nI 0), .ref a_2, .int (nI 0), .ref a_3, .ref a_4, .ref a_5, .ref a_6, .null, .null, .null, .null, .null, .null, .int (nI 0), .int (nI 0), .int (nI 0), .int (nI 0), .int (nI 0), .int (nI 0), .int (nI 0), .int (nI 0), .int (nI 0), .null, .int (nI 0), .int (nI 0), .int (nI 0), .int (nI 0), .int (nI 0), .null, .null, .null, .null, .null, .null, .null, .null, .null, .null, .int (nI 0), .null, .null, .null], bA g a_1 600 (fun _ => 0), bA g a_2 1400 (fun _ => 0), bA g a_3 32 (fun _ => 0), iA g a_4 64 (fun _ => 0), iA g a_5 8 (fun _ => 0), iA g a_6 8 (tk s_first 8), iA g a_7 64 (tk s_cube 35)] (by rw [tk_step (show (1294757372 : Int32) = s_cube.getD 34 0 from rfl)]) ?_
  refine j_dup hX dX11_init_305 rfl ?_
  refine j_bipush hX (35) dX11_init_306 (by decide) ?_
  refine j_ldc hX dX11_init_308 (List.mem_of_getElem? (i := 55) rfl) ?_
  refine j_iastN hX 7 35 rfl (by omega) (by omega) [oB h 11 [.ref a_1, .int (nI 0), .ref a_2, .int (nI 0), .ref a_3, .ref a_4, .ref a_5, .ref a_6, .null, .null, .null, .null, .null, .null, .int (nI 0), .int (nI 0), .int (nI 0), .int (nI 0), .int (nI 0), .int (nI 0), .int (nI 0), .int (nI 0), .int (nI 0), .null, .int (nI 0), .int (nI 0), .int (nI 0), .int (nI 0), .int (nI 0), .null, .null, .null, .null, .null, .null, .null, .null, .null, .null, .int (nI 0), .null, .null, .null], bA g a_1 600 (fun _ => 0), bA g a_2 1400 (fun _ => 0), bA g a_3 32 (fun _ => 0), iA g a_4 64 (fun _ => 0), iA g a_5 8 (fun _ => 0), iA g a_6 8 (tk s_first 8), iA g a_7 64 (upd (tk s_cube 35) 35 1396182291)] rfl dX11_init_310 ?_
  refine j_w [oB h 11 [.ref a_1, .int (nI 0), .ref a_2, .int (nI 0), .ref a_3, .ref a_4, .ref a_5, .ref a_6, .null, .null, .null, .null, .null, .null, .int (nI 0), .int (nI 0), .int (nI 0), .int (nI 0), .int (nI 0), .int (nI 0), .int (nI 0), .int (nI 0), .int (nI 0), .null, .int (nI 0), .int (nI 0), .int (nI 0), .int (nI 0), .int (nI 0), .null, .null, .null, .null, .null, .null, .null, .null, .null, .null, .int (nI 0), .null, .null, .null], bA g a_1 600 (fun _ => 0), bA g a_2 1400 (fun _ => 0), bA g a_3 32 (fun _ => 0), iA g a_4 64 (fun _ => 0), iA g a_5 8 (fun _ => 0), iA g a_6 8 (tk s_first 8), iA g a_7 64 (tk s_cube 36)] (by rw [tk_step (show (1396182291 : Int32) = s_cube.getD 35 0 from rfl)]) ?_
  refine j_dup hX dX11_init_311 rfl ?_
  refine j_bipush hX (36) dX11_init_312 (by decide) ?_
  refine j_pc 314 rfl ?_
  refine j_ldc hX dX11_init_314 (List.mem_of_getElem? (i := 56) rfl) ?_
  refine j_iastN hX 7 36 rfl (by omega) (by omega) [oB h 11 [.ref a_1, .int (nI 0), .ref a_2, .int (nI 0), .ref a_3, .ref a_4, .ref a_5, .ref a_6, .null, .null, .null, .null, .null, .null, .int (nI 0), .int (nI 0), .int (nI 0), .int (nI 0), .int (nI 0), .int (nI 0), .int (nI 0), .int (nI 0), .int (nI 0), .null, .int (nI 0), .int (nI 0), .int (nI 0), .int (nI 0), .int (nI 0), .null, .null, .null, .null, .null, .null, .null, .null, .null, .null, .int (nI 0), .null, .null, .null], bA g a_1 600 (fun _ => 0), bA g a_2 1400 (fun _ => 0), bA g a_3 32 (fun _ => 0), iA g a_4 64 (fun _ => 0), iA g a_5 8 (fun _ => 0), iA g a_6 8 (tk s_first 8), iA g a_7 64 (upd (tk s_cube 36) 36 1695183700)] rfl dX11_init_316 ?_
  refine j_w [oB h 11 [.ref a_1, .int (nI 0), .ref a_2, .int (nI 0), .ref a_3, .ref a_4, .ref a_5, .ref a_6, .null, .null, .null, .null, .null, .null, .int (nI 0), .int (nI 0), .int (nI 0), .int (nI 0), .int (nI 0), .int (nI 0), .int (nI 0), .int (nI 0), .int (nI 0), .null, .int (nI 0), .int (nI 0), .int (nI 0), .int (nI 0), .int (nI 0), .null, .null, .null, .null, .null, .null, .null, .null, .null, .null, .int (nI 0), .null, .null, .null], bA g a_1 600 (fun _ => 0), bA g a_2 1400 (fun _ => 0), bA g a_3 32 (fun _ => 0), iA g a_4 64 (fun _ => 0), iA g a_5 8 (fun _ => 0), iA g a_6 8 (tk s_first 8), iA g a_7 64 (tk s_cube 37)] (by rw [tk_step (show (1695183700 : Int32) = s_cube.getD 36 0 from rfl)]) ?_
  refine j_dup hX dX11_init_317 rfl ?_
  refine j_bipush hX (37) dX11_init_318 (by decide) ?_
  refine j_ldc hX dX11_init_320 (List.mem_of_getElem? (i := 57) rfl) ?_
  refine j_iastN hX 7 37 rfl (by omega) (by omega) [oB h 11 [.ref a_1, .int (nI 0), .ref a_2, .int (nI 0), .ref a_3, .ref a_4, .ref a_5, .ref a_6, .null, .null, .null, .null, .null, .null, .int (nI 0), .int (nI 0), .int (nI 0), .int (nI 0), .int (nI 0), .int (nI 0), .int (nI 0), .int (nI 0), .int (nI 0), .null, .int (nI 0), .int (nI 0), .int (nI 0), .int (nI 0), .int (nI 0), .null, .null, .null, .null, .null, .null, .null, .null, .null, .null, .int (nI 0), .null, .null, .null], bA g a_1 600 (fun _ => 0), bA g a_2 1400 (fun _ => 0), bA g a_3 32 (fun _ => 0), iA g a_4 64 (fun _ => 0), iA g a_5 8 (fun _ => 0), iA g a_6 8 (tk s_first 8), iA g a_7 64 (upd (tk s_cube 37) 37 1986661051)] rfl dX11_init_322 ?_
  refine j_w [oB h 11 [.ref a_1, .int (nI 0), .ref a_2, .int (nI 0), .ref a_3, .ref a_4, .ref a_5, .ref a_6, .null, .null, .null, .null, .null, .null, .int (nI 0), .int (nI 0), .int (nI 0), .int (nI 0), .int (nI 0), .int (nI 0), .int (nI 0), .int (nI 0), .int (nI 0), .null, .int (nI 0), .int (nI 0), .int (nI 0), .int (nI 0), .int (nI 0), .null, .null, .null, .null, .null, .null, .null, .null, .null, .null, .int (nI 0), .null, .null, .null], bA g a_1 600 (fun _ => 0), bA g a_2 1400 (fun _ => 0), bA g a_3 32 (fun _ => 0), iA g a_4 64 (fun _ => 0), iA g a_5 8 (fun _ => 0), iA g a_6 8 (tk s_first 8), iA g a_7 64 (tk s_cube 38)] (by rw [tk_step (show (1986661051 : Int32) = s_cube.getD 37 0 from rfl)]) ?_
  refine j_dup hX dX11_init_323 rfl ?_
  refine j_bipush hX (38) dX11_init_324 (by decide) ?_
  refine j_pc 326 rfl ?_
  refine j_ldc hX dX11_init_326 (List.mem_of_getElem? (i := 58) rfl) ?_
  refine j_iastN hX 7 38 rfl (by omega) (by omega) [oB h 11 [.ref a_1, .int (nI 0), .ref a_2, .int (nI 0), .ref a_3, .ref a_4, .ref a_5, .ref a_6, .null, .null, .null, .null, .null, .null, .int (nI 0), .int (nI 0), .int (nI 0), .int (nI 0), .int (nI 0), .int (nI 0), .int (nI 0), .int (nI 0), .int (nI 0), .null, .int (nI 0), .int (nI 0), .int (nI 0), .int (nI 0), .int (nI 0), .null, .null, .null, .null, .null, .null, .null, .null, .null, .null, .int (nI 0), .null, .null, .null], bA g a_1 600 (fun _ => 0), bA g a_2 1400 (fun _ => 0), bA g a_3 32 (fun _ => 0), iA g a_4 64 (fun _ => 0), iA g a_5 8 (fun _ => 0), iA g a_6 8 (tk s_first 8), iA g a_7 64 (upd (tk s_cube 38) 38 (-2117940946))] rfl dX11_init_328 ?_
  refine j_w [oB h 11 [.ref a_1, .int (nI 0), .ref a_2, .int (nI 0), .ref a_3, .ref a_4, .ref a_5, .ref a_6, .null, .null, .null, .null, .null, .null, .int (nI 0), .int (nI 0), .int (nI 0), .int (nI 0), .int (nI 0), .int (nI 0), .int (nI 0), .int (nI 0), .int (nI 0), .null, .int (nI 0), .int (nI 0), .int (nI 0), .int (nI 0), .int (nI 0), .null, .null, .null, .null, .null, .null, .null, .null, .null, .null, .int (nI 0), .null, .null, .null], bA g a_1 600 (fun _ => 0), bA g a_2 1400 (fun _ => 0), bA g a_3 32 (fun _ => 0), iA g a_4 64 (fun _ => 0), iA g a_5 8 (fun _ => 0), iA g a_6 8 (tk s_first 8), iA g a_7 64 (tk s_cube 39)] (by rw [tk_step (show ((-2117940946) : Int32) = s_cube.getD 38 0 from rfl)]) ?_
  refine j_dup hX dX11_init_329 rfl ?_
  refine j_bipush hX (39) dX11_init_330 (by decide) ?_
  refine j_ldc hX dX11_init_332 (List.mem_of_getElem? (i := 59) rfl) ?_
  refine j_iastN hX 7 39 rfl (by omega) (by omega) [oB h 11 [.ref a_1, .int (nI 0), .ref a_2, .int (nI 0), .ref a_3, .ref a_4, .ref a_5, .ref a_6, .null, .null, .null, .null, .null, .null, .int (nI 0), .int (nI 0), .int (nI 0), .int (nI 0), .int (nI 0), .int (nI 0), .int (nI 0), .int (nI 0), .int (nI 0), .null, .int (nI 0), .int (nI 0), .int (nI 0), .int (nI 0), .int (nI 0), .null, .null, .null, .null, .null, .null, .null, .null, .null, .null, .int (nI 0), .null, .null, .null], bA g a_1 600 (fun _ => 0), bA g a_2 1400 (fun _ => 0), bA g a_3 32 (fun _ => 0), iA g a_4 64 (fun _ => 0), iA g a_5 8 (fun _ => 0), iA g a_6 8 (tk s_first 8), iA g a_7 64 (upd (tk s_cube 39) 39 (-1838011259))] rfl dX11_init_334 ?_
  refine j_w [oB h 11 [.ref a_1, .int (nI 0), .ref a_2, .int (nI 0), .ref a_3, .ref a_4, .ref a_5, .ref a_6, .null, .null, .null, .null, .null, .null, .int (nI 0), .int (nI 0), .int (nI 0), .int (nI 0), .int (nI 0), .int (nI 0), .int (nI 0), .int (nI 0), .int (nI 0), .null, .int (nI 0), .int (nI 0), .int (nI 0), .int (nI 0), .int (nI 0), .null, .null, .null, .null, .null, .null, .null, .null, .null, .null, .int (nI 0), .null, .null, .null], bA g a_1 600 (fun _ => 0), bA g a_2 1400 (fun _ => 0), bA g a_3 32 (fun _ => 0), iA g a_4 64 (fun _ => 0), iA g a_5 8 (fun _ => 0), iA g a_6 8 (tk s_first 8), iA g a_7 64 (tk s_cube 40)] (by rw [tk_step (show ((-1838011259) : Int32) = s_cube.getD 39 0 from rfl)]) ?_
  refine j_dup hX dX11_init_335 rfl ?_
  refine j_bipush hX (40) dX11_init_336 (by decide) ?_
  refine j_pc 338 rfl ?_
  refine j_ldc hX dX11_init_338 (List.mem_of_getElem? (i := 60) rfl) ?_
  refine j_iastN hX 7 40 rfl (by omega) (by omega) [oB h 11 [.ref a_1, .int (nI 0), .ref a_2, .int (nI 0), .ref a_3, .ref a_4, .ref a_5, .ref a_6, .null, .null, .null, .null, .null, .null, .int (nI 0), .int (nI 0), .int (nI 0), .int (nI 0), .int (nI 0), .int (nI 0), .int (nI 0), .int (nI 0), .int (nI 0), .null, .int (nI 0), .int (nI 0), .int (nI 0), .int (nI 0), .int (nI 0), .null, .null, .null, .null, .null, .null, .null, .null, .null, .null, .int (nI 0), .null, .null, .null], bA g a_1 600 (fun _ => 0), bA g a_2 1400 (fun _ => 0), bA g a_3 32 (fun _ => 0), iA g a_4 64 (fun _ => 0), iA g a_5 8 (fun _ => 0), iA g a_6 8 (tk s_first 8), iA g a_7 64 (upd (tk s_cube 40) 40 (-1564481375))] rfl dX11_init_340 ?_
  refine j_w [oB h 11 [.ref a_1, .int (nI 0), .ref a_2, .int (nI 0), .ref a_3, .ref a_4, .ref a_5, .ref a_6, .null, .null, .null, .null, .null, .null, .int (nI 0), .int (nI 0), .int (nI 0), .int (nI 0), .int (nI 0), .int (nI 0), .int (nI 0), .int (nI 0), .int (nI 0), .null, .int (nI 0), .int (nI 0), .int (nI 0), .int (nI 0), .int (nI 0), .null, .null, .null, .null, .null, .null, .null, .null, .null, .null, .int (nI 0), .null, .null, .null], bA g a_1 600 (fun _ => 0), bA g a_2 1400 (fun _ => 0), bA g a_3 32 (fun _ => 0), iA g a_4 64 (fun _ => 0), iA g a_5 8 (fun _ => 0), iA g a_6 8 (tk s_first 8), iA g a_7 64 (tk s_cube 41)] (by rw [tk_step (show ((-1564481375) : Int32) = s_cube.getD 40 0 from rfl)]) ?_
  refine j_dup hX dX11_init_341 rfl ?_
  refine j_bipush hX (41) dX11_init_342 (by decide) ?_
  refine j_ldc hX dX11_init_344 (List.mem_of_getElem? (i := 61) rfl) ?_
  refine j_iastN hX 7 41 rfl (by omega) (by omega) [oB h 11 [.ref a_1, .int (nI 0), .ref a_2, .int (nI 0), .ref a_3, .ref a_4, .ref a_5, .ref a_6, .null, .null, .null, .null, .null, .null, .int (nI 0), .int (nI 0), .int (nI 0), .int (nI 0), .int (nI 0), .int (nI 0), .int (nI 0), .int (nI 0), .int (nI 0), .null, .int (nI 0), .int (nI 0), .int (nI 0), .int (nI 0), .int (nI 0), .null, .null, .null, .null, .null, .null, .null, .null, .null, .null, .int (nI 0), .null, .null, .null], bA g a_1 600 (fun _ => 0), bA g a_2 1400 (fun _ => 0), bA g a_3 32 (fun _ => 0), iA g a_4 64 (fun _ => 0), iA g a_5 8 (fun _ => 0), iA g a_6 8 (tk s_first 8), iA g a_7 64 (upd (tk s_cube 41) 41 (-1474664885))] rfl dX11_init_346 ?_
  refine j_w [oB h 11 [.ref a_1, .int (nI 0), .ref a_2, .int (nI 0), .ref a_3, .ref a_4, .ref a_5, .ref a_6, .null, .null, .null, .null, .null, .null, .int (nI 0), .int (nI 0), .int (nI 0), .int (nI 0), .int (nI 0), .int (nI 0), .int (nI 0), .int (nI 0), .int (nI 0), .null, .int (nI 0), .int (nI 0), .int (nI 0), .int (nI 0), .int (nI 0), .null, .null, .null, .null, .null, .null, .null, .null, .null, .null, .int (nI 0), .null, .null, .null], bA g a_1 600 (fun _ => 0), bA g a_2 1400 (fun _ => 0), bA g a_3 32 (fun _ => 0), iA g a_4 64 (fun _ => 0), iA g a_5 8 (fun _ => 0), iA g a_6 8 (tk s_first 8), iA g a_7 64 (tk s_cube 42)] (by rw [tk_step (show ((-1474664885) : Int32) = s_cube.getD 41 0 from rfl)]) ?_
  refine j_dup hX dX11_init_347 rfl ?_
  refine j_bipush hX (42) dX11_init_348 (by decide) ?_
  refine j_pc 350 rfl ?_
  refine j_ldc hX dX11_init_350 (List.mem_of_getElem? (i := 62) rfl) ?_
  refine j_iastN hX 7 42 rfl (by omega) (by omega) [oB h 11 [.ref a_1, .int (nI 0), .ref a_2, .int (nI 0), .ref a_3, .ref a_4, .ref a_5, .ref a_6, .null, .null, .null, .null, .null, .null, .int (nI 0), .int (nI 0), .int (nI 0), .int (nI 0), .int (nI 0), .int (nI 0), .int (nI 0), .int (nI 0), .int (nI 0), .null, .int (nI 0), .int (nI 0), .int (nI 0), .int (nI 0), .int (nI 0), .null, .null, .null, .null, .null, .null, .null, .null, .null, .null, .int (nI 0), .null, .null, .null], bA g a_1 600 (fun _ => 0), bA g a_2 1400 (fun _ => 0), bA g a_3 32 (fun _ => 0), iA g a_4 64 (fun _ => 0), iA g a_5 8 (fun _ => 0), iA g a_6 8 (tk s_first 8), iA g a_7 64 (upd (tk s_cube 42) 42 (-1035236496))] rfl dX11_init_352 ?_
  refine j_w [oB h 11 [.ref a_1, .int (nI 0), .ref a_2, .int (nI 0), .ref a_3, .ref a_4, .ref a_5, .ref a_6, .null, .null, .null, .null, .null, .null, .int (nI 0), .int (nI 0), .int (nI 0), .int (nI 0), .int (nI 0), .int (nI 0), .int (nI 0), .int (nI 0), .int (nI 0), .null, .int (nI 0), .int (nI 0), .int (nI 0), .int (nI 0), .int (nI 0), .null, .null, .null, .null, .null, .null, .null, .null, .null, .null, .int (nI 0), .null, .null, .null], bA g a_1 600 (fun _ => 0), bA g a_2 1400 (fun _ => 0), bA g a_3 32 (fun _ => 0), iA g a_4 64 (fun _ => 0), iA g a_5 8 (fun _ => 0), iA g a_6 8 (tk s_first 8), iA g a_7 64 (tk s_cube 43)] (by rw [tk_step (show ((-1035236496) : Int32) = s_cube.getD 42 0 from rfl)]) ?_
  refine j_dup hX dX11_init_353 rfl ?_
  refine j_bipush hX (43) dX11_init_354 (by decide) ?_
  refine j_ldc hX dX11_init_356 (List.mem_of_getElem? (i := 63) rfl) ?_
  refine j_iastN hX 7 43 rfl (by omega) (by omega) [oB h 11 [.ref a_1, .int (nI 0), .ref a_2, .int (nI 0), .ref a_3, .ref a_4, .ref a_5, .ref a_6, .null, .null, .null, .null, .null, .null, .int (nI 0), .int (nI 0), .int (nI 0), .int (nI 0), .int (nI 0), .int (nI 0), .int (nI 0), .int (nI 0), .int (nI 0), .null, .int (nI 0), .int (nI 0), .int (nI 0), .int (nI 0), .int (nI 0), .null, .null, .null, .null, .null, .null, .null, .null, .null, .null, .int (nI 0), .null, .null, .null], bA g a_1 600 (fun _ => 0), bA g a_2 1400 (fun _ => 0), bA g a_3 32 (fun _ => 0), iA g a_4 64 (fun _ => 0), iA g a_5 8 (fun _ => 0), iA g a_6 8 (tk s_first 8), iA g a_7 64 (upd (tk s_cube 43) 43 (-949202525))] rfl dX11_init_358 ?_
  refine j_w [oB h 11 [.ref a_1, .int (nI 0), .ref a_2, .int (nI 0), .ref a_3, .ref a_4, .ref a_5, .ref a_6, .null, .null, .null, .null, .null, .null, .int (nI 0), .int (nI 0), .int (nI 0), .int (nI 0), .int (nI 0), .int (nI 0), .int (nI 0), .int (nI 0), .int (nI 0), .null, .int (nI 0), .int (nI 0), .int (nI 0), .int (nI 0), .int (nI 0), .null, .null, .null, .null, .null, .null, .null, .null, .null, .null, .int (nI 0), .null, .null, .null], bA g a_1 600 (fun _ => 0), bA g a_2 1400 (fun _ => 0), bA g a_3 32 (fun _ => 0), iA g a_4 64 (fun _ => 0), iA g a_5 8 (fun _ => 0), iA g a_6 8 (tk s_first 8), iA g a_7 64 (tk s_cube 44)] (by rw [tk_step (show ((-949202525) : Int32) = s_cube.getD 43 0 from rfl)]) ?_
  refine j_dup hX dX11_init_359 rfl ?_
  refine j_bipush hX (44) dX11_init_360 (by decide) ?_
  refine j_pc 362 rfl ?_
  refine j_ldc hX dX11_init_362 (List.mem_of_getElem? (i := 64) rfl) ?_
  refine j_iastN hX 7 44 rfl (by omega) (by omega) [oB h 11 [.ref a_1, .int (nI 0), .ref a_2, .int (nI 0), .ref a_3, .ref a_4, .ref a_5, .ref a_6, .null, .null, .null, .null, .null, .null, .int (nI 0), .int (nI 0), .int (nI 0), .int (nI 0), .int (nI 0), .int (nI 0), .int (nI 0), .int (nI 0), .int (nI 0), .null, .int (nI 0), .int (nI 0), .int (nI 0), .int (nI 0), .int (nI 0), .null, .null, .null, .null, .null, .null, .null, .null, .null, .null, .int (nI 0), .null, .null, .null], bA g a_1 600 (fun _ => 0), bA g a_2 1400 (fun _ => 0), bA g a_3 32 (fun _ => 0), iA g a_4 64 (fun _ => 0), iA g a_5 8 (fun _ => 0), iA g a_6 8 (tk s_first 8), iA g a_7 64 (upd (tk s_cube 44) 44 (-778901479))] rfl dX11_init_364 ?_
  refine j_w [oB h 11 [.ref a_1, .int (nI 0), .ref a_2, .int (nI 0), .ref a_3, .ref a_4, .ref a_5, .ref a_6, .null, .null, .null, .null, .null, .null, .int (nI 0), .int (nI 0), .int (nI 0), .int (nI 0), .int (nI 0), .int (nI 0), .int (nI 0), .int (nI 0), .int (nI 0), .null, .int (nI 0), .int (nI 0), .int (nI 0), .int (nI 0), .int (nI 0), .null, .null, .null, .null, .null, .null, .null, .null, .null, .null, .int (nI 0), .null, .null, .null], bA g a_1 600 (fun _ => 0), bA g a_2 1400 (fun _ => 0), bA g a_3 32 (fun _ => 0), iA g a_4 64 (fun _ => 0), iA g a_5 8 (fun _ => 0), iA g a_6 8 (tk s_first 8), iA g a_7 64 (tk s_cube 45)] (by rw [tk_step (show ((-778901479) : Int32) = s_cube.getD 44 0 from rfl)]) ?_
  refine j_dup hX dX11_init_365 rfl ?_
  refine j_bipush hX (45) dX11_init_366 (by decide) ?_
  refine j_ldc hX dX11_init_368 (List.mem_of_getElem? (i := 65) rfl) ?_
  refine j_iastN hX 7 45 rfl (by omega) (by omega) [oB h 11 [.ref a_1, .int (nI 0), .ref a_2, .int (nI 0), .ref a_3, .ref a_4, .ref a_5, .ref a_6, .null, .null, .null, .null, .null, .null, .int (nI 0), .int (nI 0), .int (nI 0), .int (nI 0), .int (nI 0), .int (nI 0), .int (nI 0), .int (nI 0), .int (nI 0), .null, .int (nI 0), .int (nI 0), .int (nI 0), .int (nI 0), .int (nI 0), .null, .null, .null, .null, .null, .null, .null, .null, .null, .null, .int (nI 0), .null, .null, .null], bA g a_1 600 (fun _ => 0), bA g a_2 1400 (fun _ => 0), bA g a_3 32 (fun _ => 0), iA g a_4 64 (fun _ => 0), iA g a_5 8 (fun _ => 0), iA g a_6 8 (tk s_first 8), iA g a_7 64 (upd (tk s_cube 45) 45 (-694614492))] rfl dX11_init_370 ?_
  refine j_w [oB h 11 [.ref a_1, .int (nI 0), .ref a_2, .int (nI 0), .ref a_3, .ref a_4, .ref a_5, .ref a_6, .null, .null, .null, .null, .null, .null, .int (nI 0), .int (nI 0), .int (nI 0), .int (nI 0), .int (nI 0), .int (nI 0), .int (nI 0), .int (nI 0), .int (nI 0), .null, .int (nI 0), .int (nI 0), .int (nI 0), .int (nI 0), .int (nI 0), .null, .null, .null, .null, .null, .null, .null, .null, .null, .null, .int (nI 0), .null, .null, .null], bA g a_1 600 (fun _ => 0), bA g a_2 1400 (fun _ => 0), bA g a_3 32 (fun _ => 0), iA g a_4 64 (fun _ => 0), iA g a_5 8 (fun _ => 0), iA g a_6 8 (tk s_first 8), iA g a_7 64 (tk s_cube 46)] (by rw [tk_step (show ((-694614492) : Int32) = s_cube.getD 45 0 from rfl)]) ?_
  refine j_dup hX dX11_init_371 rfl ?_
  refine j_bipush hX (46) dX11_init_372 (by decide) ?_
  refine j_pc 374 rfl ?_
  refine j_ldc hX dX11_init_374 (List.mem_of_getElem? (i := 66) rfl) ?_
  refine j_iastN hX 7 46 rfl (by omega) (by omega) [oB h 11 [.ref a_1, .int (nI 0), .ref a_2, .int (nI 0), .ref a_3, .ref a_4, .ref a_5, .ref a_6, .null, .null, .null, .null, .null, .null, .int (nI 0), .int (nI 0), .int (nI 0), .int (nI 0), .int (nI 0), .int (nI 0), .int (nI 0), .int (nI 0), .int (nI 0), .null, .int (nI 0), .int (nI 0), .int (nI 0), .int (nI 0), .int (nI 0), .null, .null, .null, .null, .null, .null, .null, .null, .null, .null, .int (nI 0), .null, .null, .null], bA g a_1 600 (fun _ => 0), bA g a_2 1400 (fun _ => 0), bA g a_3 32 (fun _ => 0), iA g a_4 64 (fun _ => 0), iA g a_5 8 (fun _ => 0), iA g a_6 8 (tk s_first 8), iA g a_7 64 (upd (tk s_cube 46) 46 (-200395387))] rfl dX11_init_376 ?_
  refine j_w [oB h 11 [.ref a_1, .int (nI 0), .ref a_2, .int (nI 0), .ref a_3, .ref a_4, .ref a_5, .ref a_6, .null, .null, .null, .null, .null, .null, .int (nI 0), .int (nI 0), .int (nI 0), .int (nI 0), .int (nI 0), .int (nI 0), .int (nI 0), .int (nI 0), .int (nI 0), .null, .int (nI 0), .int (nI 0), .int (nI 0), .int (nI 0), .int (nI 0), .null, .null, .null, .null, .null, .null, .null, .null, .null, .null, .int (nI 0), .null, .null, .null], bA g a_1 600 (fun _ => 0), bA g a_2 1400 (fun _ => 0), bA g a_3 32 (fun _ => 0), iA g a_4 64 (fun _ => 0), iA g a_5 8 (fun _ => 0), iA g a_6 8 (tk s_first 8), iA g a_7 64 (tk s_cube 47)] (by rw [tk_step (show ((-200395387) : Int32) = s_cube.getD 46 0 from rfl)]) ?_
  refine j_dup hX dX11_init_377 rfl ?_
  refine j_bipush hX (47) dX11_init_378 (by decide) ?_
  refine j_ldc hX dX11_init_380 (List.mem_of_getElem? (i := 67) rfl) ?_
  refine j_iastN hX 7 47 rfl (by omega) (by omega) [oB h 11 [.ref a_1, .int (nI 0), .ref a_2, .int (nI 0), .ref a_3, .ref a_4, .ref a_5, .ref a_6, .null, .null, .null, .null, .null, .null, .int (nI 0), .int (nI 0), .int (nI 0), .int (nI 0), .int (nI 0), .int (nI 0), .int (nI 0), .int (nI 0), .int (nI 0), .null, .int (nI 0), .int (nI 0), .int (nI 0), .int (nI 0), .int (nI 0), .null, .null, .null, .null, .null, .null, .null, .null, .null, .null, .int (nI 0), .null, .null, .null], bA g a_1 600 (fun _ => 0), bA g a_2 1400 (fun _ => 0), bA g a_3 32 (fun _ => 0), iA g a_4 64 (fun _ => 0), iA g a_5 8 (fun _ => 0), iA g a_6 8 (tk s_first 8), iA g a_7 64 (upd (tk s_cube 47) 47 275423344)] rfl dX11_init_382 ?_
  refine j_w [oB h 11 [.ref a_1, .int (nI 0), .ref a_2, .int (nI 0), .ref a_3, .ref a_4, .ref a_5, .ref a_6, .null, .null, .null, .null, .null, .null, .int (nI 0), .int (nI 0), .int (nI 0), .int (nI 0), .int (nI 0), .int (nI 0), .int (nI 0), .int (nI 0), .int (nI 0), .null, .int (nI 0), .int (nI 0), .int (nI 0), .int (nI 0), .int (nI 0), .null, .null, .null, .null, .null, .null, .null, .null, .null, .null, .int (nI 0), .null, .null, .null], bA g a_1 600 (fun _ => 0), bA g a_2 1400 (fun _ => 0), bA g a_3 32 (fun _ => 0), iA g a_4 64 (fun _ => 0), iA g a_5 8 (fun _ => 0), iA g a_6 8 (tk s_first 8), iA g a_7 64 (tk s_cube 48)] (by rw [tk_step (show (275423344 : Int32) = s_cube.getD 47 0 from rfl)]) ?_
  refine j_dup hX dX11_init_383 rfl ?_
  refine j_bipush hX (48) dX11_init_384 (by decide) ?_
  refine j_pc 386 rfl ?_
  refine j_ldc hX dX11_init_386 (List.mem_of_getElem? (i := 68) rfl) ?_
  refine j_iastN hX 7 48 rfl (by omega) (by omega) [oB h 11 [.ref a_1, .int (nI 0), .ref a_2, .int (nI 0), .ref a_3, .ref a_4, .ref a_5, .ref a_6, .null, .null, .null, .null, .null, .null, .int (nI 0), .int (nI 0), .int (nI 0), .int (nI 0), .int (nI 0), .int (nI 0), .int (nI 0), .int (nI 0), .int (nI 0), .null, .int (nI 0), .int (nI 0), .int (nI 0), .int (nI 0), .int (nI 0), .null, .null, .null, .null, .null, .null, .null, .null, .null, .null, .int (nI 0), .null, .null, .null], bA g a_1 600 (fun _ => 0), bA g a_2 1400 (fun _ => 0), bA g a_3 32 (fun _ => 0), iA g a_4 64 (fun _ => 0), iA g a_5 8 (fun _ => 0), iA g a_6 8 (tk s_first 8), iA g a_7 64 (upd (tk s_cube 48) 48 430227734)] rfl dX11_init_388 ?_
  refine j_w [oB h 11 [.ref a_1, .int (nI 0), .ref a_2, .int (nI 0), .ref a_3, .ref a_4, .ref a_5, .ref a_6, .null, .null, .null, .null, .null, .null, .int (nI 0), .int (nI 0), .int (nI 0), .int (nI 0), .int (nI 0), .int (nI 0), .int (nI 0), .int (nI 0), .int (nI 0), .null, .int (nI 0), .int (nI 0), .int (nI 0), .int (nI 0), .int (nI 0), .null, .null, .null, .null, .null, .null, .null, .null, .null, .null, .int (nI 0), .null, .null, .null], bA g a_1 600 (fun _ => 0), bA g a_2 1400 (fun _ => 0), bA g a_3 32 (fun _ => 0), iA g a_4 64 (fun _ => 0), iA g a_5 8 (fun _ => 0), iA g a_6 8 (tk s_first 8), iA g a_7 64 (tk s_cube 49)] (by rw [tk_step (show (430227734 : Int32) = s_cube.getD 48 0 from rfl)]) ?_
  refine j_dup hX dX11_init_389 rfl ?_
  refine j_bipush hX (49) dX11_init_390 (by decide) ?_
  refine j_ldc hX dX11_init_392 (List.mem_of_getElem? (i := 69) rfl) ?_
  refine j_iastN hX 7 49 rfl (by omega) (by omega) [oB h 11 [.ref a_1, .int (nI 0), .ref a_2, .int (nI 0), .ref a_3, .ref a_4, .ref a_5, .ref a_6, .null, .null, .null, .null, .null, .null, .int (nI 0), .int (nI 0), .int (nI 0), .int (nI 0), .int (nI 0), .int (nI 0), .int (nI 0), .int (nI 0), .int (nI 0), .null, .int (nI 0), .int (nI 0), .int (nI 0), .int (nI 0), .int (nI 0), .null, .null, .null, .null, .null, .null, .null, .null, .null, .null, .int (nI 0), .null, .null, .null], bA g a_1 600 (fun _ => 0), bA g a_2 1400 (fun _ => 0), bA g a_3 32 (fun _ => 0), iA g a_4 64 (fun _ => 0), iA g a_5 8 (fun _ => 0), iA g a_6 8 (tk s_first 8), iA g a_7 64 (upd (tk s_cube 49) 49 506948616)] rfl dX11_init_394 ?_
  refine j_w [oB h 11 [.ref a_1, .int (nI 0), .ref a_2, .int (nI 0), .ref a_3, .ref a_4, .ref a_5, .ref a_6, .null, .null, .null, .null, .null, .null, .int (nI 0), .int (nI 0), .int (nI 0), .int (nI 0), .int (nI 0), .int (nI 0), .int (nI 0), .int (nI 0), .int (nI 0), .null, .int (nI 0), .int (nI 0), .int (nI 0), .int (nI 0), .int (nI 0), .null, .null, .null, .null, .null, .null, .null, .null, .null, .null, .int (nI 0), .null, .null, .null], bA g a_1 600 (fun _ => 0), bA g a_2 1400 (fun _ => 0), bA g a_3 32 (fun _ => 0), iA g a_4 64 (fun _ => 0), iA g a_5 8 (fun _ => 0), iA g a_6 8 (tk s_first 8), iA g a_7 64 (tk s_cube 50)] (by rw [tk_step (show (506948616 : Int32) = s_cube.getD 49 0 from rfl)]) ?_
  refine j_dup hX dX11_init_395 rfl ?_
  refine j_bipush hX (50) dX11_init_396 (by decide) ?_
  refine j_pc 398 rfl ?_
  refine j_ldc hX dX11_init_398 (List.mem_of_getElem? (i := 70) rfl) ?_
  refine j_iastN hX 7 50 rfl (by omega) (by omega) [oB h 11 [.ref a_1, .int (nI 0), .ref a_2, .int (nI 0), .ref a_3, .ref a_4, .ref a_5, .ref a_6, .null, .null, .null, .null, .null, .null, .int (nI 0), .int (nI 0), .int (nI 0), .int (nI 0), .int (nI 0), .int (nI 0), .int (nI 0), .int (nI 0), .int (nI 0), .null, .int (nI 0), .int (nI 0), .int (nI 0), .int (nI 0), .int (nI 0), .null, .null, .null, .null, .null, .null, .null, .null, .null, .null, .int (nI 0), .null, .null, .null], bA g a_1 600 (fun _ => 0), bA g a_2 1400 (fun _ => 0), bA g a_3 32 (fun _ => 0), iA g a_4 64 (fun _ => 0), iA g a_5 8 (fun _ => 0), iA g a_6 8 (tk s_first 8), iA g a_7 64 (upd (tk s_cube 50) 50 659060556)] rfl dX11_init_400 ?_
  refine j_w [oB h 11 [.ref a_1, .int (nI 0), .ref a_2, .int (nI 0), .ref a_3, .ref a_4, .ref a_5, .ref a_6, .null, .null, .null, .null, .null, .null, .int (nI 0), .int (nI 0), .int (nI 0), .int (nI 0), .int (nI 0), .int (nI 0), .int (nI 0), .int (nI 0), .int (nI 0), .null, .int (nI 0), .int (nI 0), .int (nI 0), .int (nI 0), .int (nI 0), .null, .null, .null, .null, .null, .null, .null, .null, .null, .null, .int (nI 0), .null, .null, .null], bA g a_1 600 (fun _ => 0), bA g a_2 1400 (fun _ => 0), bA g a_3 32 (fun _ => 0), iA g a_4 64 (fun _ => 0), iA g a_5 8 (fun _ => 0), iA g a_6 8 (tk s_first 8), iA g a_7 64 (tk s_cube 51)] (by rw [tk_step (show (659060556 : Int32) = s_cube.getD 50 0 from rfl)]) ?_
  refine j_dup hX dX11_init_401 rfl ?_
  refine j_bipush hX (51) dX11_init_402 (by decide) ?_
  refine j_ldc hX dX11_init_404 (List.mem_of_getElem? (i := 71) rfl) ?_
  refine j_iastN hX 7 51 rfl (by omega) (by omega) [oB h 11 [.ref a_1, .int (nI 0), .ref a_2, .int (nI 0), .ref a_3, .ref a_4, .ref a_5, .ref a_6, .null, .null, .null, .null, .null, .null, .int (nI 0), .int (nI 0), .int (nI 0), .int (nI 0), .int (nI 0), .int (nI 0), .int (nI 0), .int (nI 0), .int (nI 0), .null, .int (nI 0), .int (nI 0), .int (nI 0), .int (nI 0), .int (nI 0), .null, .null, .null, .null, .null, .null, .null, .null, .null, .null, .int (nI 0), .null, .null, .null], bA g a_1 600 (fun _ => 0), bA g a_2 1400 (fun _ => 0), bA g a_3 32 (fun _ => 0), iA g a_4 64 (fun _ => 0), iA g a_5 8 (fun _ => 0), iA g a_6 8 (tk s_first 8), iA g a_7 64 (upd (tk s_cube 51) 51 883997877)] rfl dX11_init_406 ?_
  refine j_w [oB h 11 [.ref a_1, .int (nI 0), .ref a_2, .int (nI 0), .ref a_3, .ref a_4, .ref a_5, .ref a_6, .null, .null, .null, .null, .null, .null, .int (nI 0), .int (nI 0), .int (nI 0), .int (nI 0), .int (nI 0), .int (nI 0), .int (nI 0), .int (nI 0), .int (nI 0), .null, .int (nI 0), .int (nI 0), .int (nI 0), .int (nI 0), .int (nI 0), .null, .null, .null, .null, .null, .null, .null, .null, .null, .null, .int (nI 0), .null, .null, .null], bA g a_1 600 (fun _ => 0), bA g a_2 1400 (fun _ => 0), bA g a_3 32 (fun _ => 0), iA g a_4 64 (fun _ => 0), iA g a_5 8 (fun _ => 0), iA g a_6 8 (tk s_first 8), iA g a_7 64 (tk s_cube 52)] (by rw [tk_step (show (883997877 : Int32) = s_cube.getD 51 0 from rfl)]) ?_
  refine j_dup hX dX11_init_407 rfl ?_
  refine j_bipush hX (52) dX11_init_408 (by decide) ?_
  refine j_pc 410 rfl ?_
  refine j_ldc hX dX11_init_410 (List.mem_of_getElem? (i := 72) rfl) ?_
  refine j_iastN hX 7 52 rfl (by omega) (by omega) [oB h 11 [.ref a_1, .int (nI 0), .ref a_2, .int (nI 0), .ref a_3, .ref a_4, .ref a_5, .ref a_6, .null, .null, .null, .null, .null, .null, .int (nI 0), .int (nI 0), .int (nI 0), .int (nI 0), .int (nI 0), .int (nI 0), .int (nI 0), .int (nI 0), .int (nI 0), .null, .int (nI 0), .int (nI 0), .int (nI 0), .int (nI 0), .int (nI 0), .null, .null, .null, .null, .null, .null, .null, .null, .null, .null, .int (nI 0), .null, .null, .null], bA g a_1 600 (fun _ => 0), bA g a_2 1400 (fun _ => 0), bA g a_3 32 (fun _ => 0), iA g a_4 64 (fun _ => 0), iA g a_5 8 (fun _ => 0), iA g a_6 8 (tk s_first 8), iA g a_7 64 (upd (tk s_cube 52) 52 958139571)] rfl dX11_init_412 ?_
  refine j_w [oB h 11 [.ref a_1, .int (nI 0), .ref a_2, .int (nI 0), .ref a_3, .ref a_4, .ref a_5, .ref a_6, .null, .null, .null, .null, .null, .null, .int (nI 0), .int (nI 0), .int (nI 0), .int (nI 0), .int (nI 0), .int (nI 0), .int (nI 0), .int (nI 0), .int (nI 0), .null, .int (nI 0), .int (nI 0), .int (nI 0), .int (nI 0), .int (nI 0), .null, .null, .null, .null, .null, .null, .null, .null, .null, .null, .int (nI 0), .null, .null, .null], bA g a_1 600 (fun _ => 0), bA g a_2 1400 (fun _ => 0), bA g a_3 32 (fun _ => 0), iA g a_4 64 (fun _ => 0), iA g a_5 8 (fun _ => 0), iA g a_6 8 (tk s_first 8), iA g a_7 64 (tk s_cube 53)] (by rw [tk_step (show (958139571 : Int32) = s_cube.getD 52 0 from rfl)]) ?_
  refine j_dup hX dX11_init_413 rfl ?_
  refine j_bipush hX (53) dX11_init_414 (by decide) ?_
  refine j_ldc hX dX11_init_416 (List.mem_of_getElem? (i := 73) rfl) ?_
  refine j_iastN hX 7 53 rfl (by omega) (by omega) [oB h 11 [.ref a_1, .int (nI 0), .ref a_2, .int (nI 0), .ref a_3, .ref a_4, .ref a_5, .ref a_6, .null, .null, .null, .null, .null, .null, .int (nI 0), .int (nI 0), .int (nI 0), .int (nI 0), .int (nI 0), .int (nI 0), .int (nI 0), .int (nI 0), .int (nI 0), .null, .int (nI 0), .int (nI 0), .int (nI 0), .int (nI 0), .int (nI 0), .null, .null, .null, .null, .null, .null, .null, .null, .null, .null, .int (nI 0), .null, .null, .null], bA g a_1 600 (fun _ => 0), bA g a_2 1400 (fun _ => 0), bA g a_3 32 (fun _ => 0), iA g a_4 64 (fun _ => 0), iA g a_5 8 (fun _ => 0), iA g a_6 8 (tk s_first 8), iA g a_7 64 (upd (tk s_cube 53) 53 1322822218)] rfl dX11_init_418 ?_
  refine j_w [oB h 11 [.ref a_1, .int (nI 0), .ref a_2, .int (nI 0), .ref a_3, .ref a_4, .ref a_5, .ref a_6, .null, .null, .null, .null, .null, .null, .int (nI 0), .int (nI 0), .int (nI 0), .int (nI 0), .int (nI 0), .int (nI 0), .int (nI 0), .int (nI 0), .int (nI 0), .null, .int (nI 0), .int (nI 0), .int (nI 0), .int (nI 0), .int (nI 0), .null, .null, .null, .null, .null, .null, .null, .null, .null, .null, .int (nI 0), .null, .null, .null], bA g a_1 600 (fun _ => 0), bA g a_2 1400 (fun _ => 0), bA g a_3 32 (fun _ => 0), iA g a_4 64 (fun _ => 0), iA g a_5 8 (fun _ => 0), iA g a_6 8 (tk s_first 8), iA g a_7 64 (tk s_cube 54)] (by rw [tk_step (show (1322822218 : Int32) = s_cube.getD 53 0 from rfl)]) ?_
  refine j_dup hX dX11_init_419 rfl ?_
  refine j_bipush hX (54) dX11_init_420 (by decide) ?_
  refine j_pc 422 rfl ?_
  refine j_ldc hX dX11_init_422 (List.mem_of_getElem? (i := 74) rfl) ?_
  refine j_iastN hX 7 54 rfl (by omega) (by omega) [oB h 11 [.ref a_1, .int (nI 0), .ref a_2, .int (nI 0), .ref a_3, .ref a_4, .ref a_5, .ref a_6, .null, .null, .null, .null, .null, .null, .int (nI 0), .int (nI 0), .int (nI 0), .int (nI 0), .int (nI 0), .int (nI 0), .int (nI 0), .int (nI 0), .int (nI 0), .null, .int (nI 0), .int (nI 0), .int (nI 0), .int (nI 0), .int (nI 0), .null, .null, .null, .null, .null, .null, .null, .null, .null, .null, .int (nI 0), .null, .null, .null], bA g a_1 600 (fun _ => 0), bA g a_2 1400 (fun _ => 0), bA g a_3 32 (fun _ => 0), iA g a_4 64 (fun _ => 0), iA g a_5 8 (fun _ => 0), iA g a_6 8 (tk s_first 8), iA g a_7 64 (upd (tk s_cube 54) 54 1537002063)] rfl dX11_init_424 ?_
  refine j_w [oB h 11 [.ref a_1, .int (nI 0), .ref a_2, .int (nI 0), .ref a_3, .ref a_4, .ref a_5, .ref a_6, .null, .null, .null, .null, .null, .null, .int (nI 0), .int (nI 0), .int (nI 0), .int (nI 0), .int (nI 0), .int (nI 0), .int (nI 0), .int (nI 0), .int (nI 0), .null, .int (nI 0), .int (nI 0), .int (nI 0), .int (nI 0), .int (nI 0), .null, .null, .null, .null, .null, .null, .null, .null, .null, .null, .int (nI 0), .null, .null, .null], bA g a_1 600 (fun _ => 0), bA g a_2 1400 (fun _ => 0), bA g a_3 32 (fun _ => 0), iA g a_4 64 (fun _ => 0), iA g a_5 8 (fun _ => 0), iA g a_6 8 (tk s_first 8), iA g a_7 64 (tk s_cube 55)] (by rw [tk_step (show (1537002063 : Int32) = s_cube.getD 54 0 from rfl)]) ?_
  refine j_dup hX dX11_init_425 rfl ?_
  refine j_bipush hX (55) dX11_init_426 (by decide) ?_
  refine j_ldc hX dX11_init_428 (List.mem_of_getElem? (i := 75) rfl) ?_
  refine j_iastN hX 7 55 rfl (by omega) (by omega) [oB h 11 [.ref a_1, .int (nI 0), .ref a_2, .int (nI 0), .ref a_3, .ref a_4, .ref a_5, .ref a_6, .null, .null, .null, .null, .null, .null, .int (nI 0), .int (nI 0), .int (nI 0), .int (nI 0), .int (nI 0), .int (nI 0), .int (nI 0), .int (nI 0), .int (nI 0), .null, .int (nI 0), .int (nI 0), .int (nI 0), .int (nI 0), .int (nI 0), .null, .null, .null, .null, .null, .null, .null, .null, .null, .null, .int (nI 0), .null, .null, .null], bA g a_1 600 (fun _ => 0), bA g a_2 1400 (fun _ => 0), bA g a_3 32 (fun _ => 0), iA g a_4 64 (fun _ => 0), iA g a_5 8 (fun _ => 0), iA g a_6 8 (tk s_first 8), iA g a_7 64 (upd (tk s_cube 55) 55 1747873779)] rfl dX11_init_430 ?_
  refine j_w [oB h 11 [.ref a_1, .int (nI 0), .ref a_2, .int (nI 0), .ref a_3, .ref a_4, .ref a_5, .ref a_6, .null, .null, .null, .null, .null, .null, .int (nI 0), .int (nI 0), .int (nI 0), .int (nI 0), .int (nI 0), .int (nI 0), .int (nI 0), .int (nI 0), .int (nI 0), .null, .int (nI 0), .int (nI 0), .int (nI 0), .int (nI 0), .int (nI 0), .null, .null, .null, .null, .null, .null, .null, .null, .null, .null, .int (nI 0), .null, .null, .null], bA g a_1 600 (fun _ => 0), bA g a_2 1400 (fun _ => 0), bA g a_3 32 (fun _ => 0), iA g a_4 64 (fun _ => 0), iA g a_5 8 (fun _ => 0), iA g a_6 8 (tk s_first 8), iA g a_7 64 (tk s_cube 56)] (by rw [tk_step (show (1747873779 : Int32) = s_cube.getD 55 0 from rfl)]) ?_
  refine j_dup hX dX11_init_431 rfl ?_
  refine j_bipush hX (56) dX11_init_432 (by decide) ?_
  refine j_pc 434 rfl ?_
  refine j_ldc hX dX11_init_434 (List.mem_of_getElem? (i := 76) rfl) ?_
  refine j_iastN hX 7 56 rfl (by omega) (by omega) [oB h 11 [.ref a_1, .int (nI 0), .ref a_2, .int (nI 0), .ref a_3, .ref a_4, .ref a_5, .ref a_6, .null, .null, .null, .null, .null, .null, .int (nI 0), .int (nI 0), .int (nI 0), .int (nI 0), .int (nI 0), .int (nI 0), .int (nI 0), .int (nI 0), .int (nI 0), .null, .int (nI 0), .int (nI 0), .int (nI 0), .int (nI 0), .int (nI 0), .null, .null, .null, .null, .null, .null, .null, .null, .null, .null, .int (nI 0), .null, .null, .null], bA g a_1 600 (fun _ => 0), bA g a_2 1400 (fun _ => 0), bA g a_3 32 (fun _ => 0), iA g a_4 64 (fun _ => 0), iA g a_5 8 (fun _ => 0), iA g a_6 8 (tk s_first 8), iA g a_7 64 (upd (tk s_cube 56) 56 1955562222)] rfl dX11_init_436 ?_
  refine j_w [oB h 11 [.ref a_1, .int (nI 0), .ref a_2, .int (nI 0), .ref a_3, .ref a_4, .ref a_5, .ref a_6, .null, .null, .null, .null, .null, .null, .int (nI 0), .int (nI 0), .int (nI 0), .int (nI 0), .int (nI 0), .int (nI 0), .int (nI 0), .int (nI 0), .int (nI 0), .null, .int (nI 0), .int (nI 0), .int (nI 0), .int (nI 0), .int (nI 0), .null, .null, .null, .null, .null, .null, .null, .null, .null, .null, .int (nI 0), .null, .null, .null], bA g a_1 600 (fun _ => 0), bA g a_2 1400 (fun _ => 0), bA g a_3 32 (fun _ => 0), iA g a_4 64 (fun _ => 0), iA g a_5 8 (fun _ => 0), iA g a_6 8 (tk s_first 8), iA g a_7 64 (tk s_cube 57)] (by rw [tk_step (show (1955562222 : Int32) = s_cube.getD 56 0 from rfl)]) ?_
  refine j_dup hX dX11_init_437 rfl ?_
  refine j_bipush hX (57) dX11_init_438 (by decide) ?_
  refine j_ldc hX dX11_init_440 (List.mem_of_getElem? (i := 77) rfl) ?_
  refine j_iastN hX 7 57 rfl (by omega) (by omega) [oB h 11 [.ref a_1, .int (nI 0), .ref a_2, .int (nI 0), .ref a_3, .ref a_4, .ref a_5, .ref a_6, .null, .null, .null, .null, .null, .null, .int (nI 0), .int (nI 0), .int (nI 0), .int (nI 0), .int (nI 0), .int (nI 0), .int (nI 0), .int (nI 0), .int (nI 0), .null, .int (nI 0), .int (nI 0), .int (nI 0), .int (nI 0), .int (nI 0), .null, .null, .null, .null, .null, .null, .null, .null, .null, .null, .int (nI 0), .null, .null, .null], bA g a_1 600 (fun _ => 0), bA g a_2 1400 (fun _ => 0), bA g a_3 32 (fun _ => 0), iA g a_4 64 (fun _ => 0), iA g a_5 8 (fun _ => 0), iA g a_6 8 (tk s_first 8), iA g a_7 64 (upd (tk s_cube 57) 57 2024104815)] rfl dX11_init_442 ?_
  refine j_w [oB h 11 [.ref a_1, .int (nI 0), .ref a_2, .int (nI 0), .ref a_3, .ref a_4, .ref a_5, .ref a_6, .null, .null, .null, .null, .null, .null, .int (nI 0), .int (nI 0), .int (nI 0), .int (nI 0), .int (nI 0), .int (nI 0), .int (nI 0), .int (nI 0), .int (nI 0), .null, .int (nI 0), .int (nI 0), .int (nI 0), .int (nI 0), .int (nI 0), .null, .null, .null, .null, .null, .null, .null, .null, .null, .null, .int (nI 0), .null, .null, .null], bA g a_1 600 (fun _ => 0), bA g a_2 1400 (fun _ => 0), bA g a_3 32 (fun _ => 0), iA g a_4 64 (fun _ => 0), iA g a_5 8 (fun _ => 0), iA g a_6 8 (tk s_first 8), iA g a_7 64 (tk s_cube 58)] (by rw [tk_step (show (2024104815 : Int32) = s_cube.getD 57 0 from rfl)]) ?_
  refine j_dup hX dX11_init_443 rfl ?_
  refine j_bipush hX (58) dX11_init_444 (by decide) ?_
  refine j_pc 446 rfl ?_
  refine j_ldc hX dX11_init_446 (List.mem_of_getElem? (i := 78) rfl) ?_
  refine j_iastN hX 7 58 rfl (by omega) (by omega) [oB h 11 [.ref a_1, .int (nI 0), .ref a_2, .int (nI 0), .ref a_3, .ref a_4, .ref a_5, .ref a_6, .null, .null, .null, .null, .null, .null, .int (nI 0), .int (nI 0), .int (nI 0), .int (nI 0), .int (nI 0), .int (nI 0), .int (nI 0), .int (nI 0), .int (nI 0), .null, .int (nI 0), .int (nI 0), .int (nI 0), .int (nI 0), .int (nI 0), .null, .null, .null, .null, .null, .null, .null, .null, .null, .null, .int (nI 0), .null, .null, .null], bA g a_1 600 (fun _ => 0), bA g a_2 1400 (fun _ => 0), bA g a_3 32 (fun _ => 0), iA g a_4 64 (fun _ => 0), iA g a_5 8 (fun _ => 0), iA g a_6 8 (tk s_first 8), iA g a_7 64 (upd (tk s_cube 58) 58 (-2067236844))] rfl dX11_init_448 ?_
  refine j_w [oB h 11 [.ref a_1, .int (nI 0), .ref a_2, .int (nI 0), .ref a_3, .ref a_4, .ref a_5, .ref a_6, .null, .null, .null, .null, .null, .null, .int (nI 0), .int (nI 0), .int (nI 0), .int (nI 0), .int (nI 0), .int (nI 0), .int (nI 0), .int (nI 0), .int (nI 0), .null, .int (nI 0), .int (nI 0), .int (nI 0), .int (nI 0), .int (nI 0), .null, .null, .null, .null, .null, .null, .null, .null, .null, .null, .int (nI 0), .null, .null, .null], bA g a_1 600 (fun _ => 0), bA g a_2 1400 (fun _ => 0), bA g a_3 32 (fun _ => 0), iA g a_4 64 (fun _ => 0), iA g a_5 8 (fun _ => 0), iA g a_6 8 (tk s_first 8), iA g a_7 64 (tk s_cube 59)] (by rw [tk_step (show ((-2067236844) : Int32) = s_cube.getD 58 0 from rfl)]) ?_
  refine j_dup hX dX11_init_449 rfl ?_
  refine j_bipush hX (59) dX11_init_450 (by decide) ?_
  refine j_ldc hX dX11_init_452 (List.mem_of_getElem? (i := 79) rfl) ?_
  refine j_iastN hX 7 59 rfl (by omega) (by omega) [oB h 11 [.ref a_1, .int (nI 0), .ref a_2, .int (nI 0), .ref a_3, .ref a_4, .ref a_5, .ref a_6, .null, .null, .null, .null, .null, .null, .int (nI 0), .int (nI 0), .int (nI 0), .int (nI 0), .int (nI 0), .int (nI 0), .int (nI 0), .int (nI 0), .int (nI 0), .null, .int (nI 0), .int (nI 0), .int (nI 0), .int (nI 0), .int (nI 0), .null, .null, .null, .null, .null, .null, .null, .null, .null, .null, .int (nI 0), .null, .null, .null], bA g a_1 600 (fun _ => 0), bA g a_2 1400 (fun _ => 0), bA g a_3 32 (fun _ => 0), iA g a_4 64 (fun _ => 0), iA g a_5 8 (fun _ => 0), iA g a_6 8 (tk s_first 8), iA g a_7 64 (upd (tk s_cube 59) 59 (-1933114872))] rfl dX11_init_454 ?_
  refine j_w [oB h 11 [.ref a_1, .int (nI 0), .ref a_2, .int (nI 0), .ref a_3, .ref a_4, .ref a_5, .ref a_6, .null, .null, .null, .null, .null, .null, .int (nI 0), .int (nI 0), .int (nI 0), .int (nI 0), .int (nI 0), .int (nI 0), .int (nI 0), .int (nI 0), .int (nI 0), .null, .int (nI 0), .int (nI 0), .int (nI 0), .int (nI 0), .int (nI 0), .null, .null, .null, .null, .null, .null, .null, .null, .null, .null, .int (nI 0), .null, .null, .null], bA g a_1 600 (fun _ => 0), bA g a_2 1400 (fun _ => 0), bA g a_3 32 (fun _ => 0), iA g a_4 64 (fun _ => 0), iA g a_5 8 (fun _ => 0), iA g a_6 8 (tk s_first 8), iA g a_7 64 (tk s_cube 60)] (by rw [tk_step (show ((-1933114872) : Int32) = s_cube.getD 59 0 from rfl)]) ?_
  refine j_dup hX dX11_init_455 rfl ?_
  refine j_bipush hX (60) dX11_init_456 (by decide) ?_
  refine j_pc 458 rfl ?_
  refine j_ldc hX dX11_init_458 (List.mem_of_getElem? (i := 80) rfl) ?_
  refine j_iastN hX 7 60 rfl (by omega) (by omega) [oB h 11 [.ref a_1, .int (nI 0), .ref a_2, .int (nI 0), .ref a_3, .ref a_4, .ref a_5, .ref a_6, .null, .null, .null, .null, .null, .null, .int (nI 0), .int (nI 0), .int (nI 0), .int (nI 0), .int (nI 0), .int (nI 0), .int (nI 0), .int (nI 0), .int (nI 0), .null, .int (nI 0), .int (nI 0), .int (nI 0), .int (nI 0), .int (nI 0), .null, .null, .null, .null, .null, .null, .null, .null, .null, .null, .int (nI 0), .null, .null, .null], bA g a_1 600 (fun _ => 0), bA g a_2 1400 (fun _ => 0), bA g a_3 32 (fun _ => 0), iA g a_4 64 (fun _ => 0), iA g a_5 8 (fun _ => 0), iA g a_6 8 (tk s_first 8), iA g a_7 64 (upd (tk s_cube 60) 60 (-1866530822))] rfl dX11_init_460 ?_
  refine j_w [oB h 11 [.ref a_1, .int (nI 0), .ref a_2, .int (nI 0), .ref a_3, .ref a_4, .ref a_5, .ref a_6, .null, .null, .null, .null, .null, .null, .int (nI 0), .int (nI 0), .int (nI 0), .int (nI 0), .int (nI 0), .int (nI 0), .int (nI 0), .int (nI 0), .int (nI 0), .null, .int (nI 0), .int (nI 0), .int (nI 0), .int (nI 0), .int (nI 0), .null, .null, .null, .null, .null, .null, .null, .null, .null, .null, .int (nI 0), .null, .null, .null], bA g a_1 600 (fun _ => 0), bA g a_2 1400 (fun _ => 0), bA g a_3 32 (fun _ => 0), iA g a_4 64 (fun _ => 0), iA g a_5 8 (fun _ => 0), iA g a_6 8 (tk s_first 8), iA g a_7 64 (tk s_cube 61)] (by rw [tk_step (show ((-1866530822) : Int32) = s_cube.getD 60 0 from rfl)]) ?_
  refine j_dup hX dX11_init_461 rfl ?_
  refine j_bipush hX (61) dX11_init_462 (by decide) ?_
  refine j_ldc hX dX11_init_464 (List.mem_of_getElem? (i := 81) rfl) ?_
  refine j_iastN hX 7 61 rfl (by omega) (by omega) [oB h 11 [.ref a_1, .int (nI 0), .ref a_2, .int (nI 0), .ref a_3, .ref a_4, .ref a_5, .ref a_6, .null, .null, .null, .null, .null, .null, .int (nI 0), .int (nI 0), .int (nI 0), .int (nI 0), .int (nI 0), .int (nI 0), .int (nI 0), .int (nI 0), .int (nI 0), .null, .int (nI 0), .int (nI 0), .int (nI 0), .int (nI 0), .int (nI 0), .null, .null, .null, .null, .null, .null, .null, .null, .null, .null, .int (nI 0), .null, .null, .null], bA g a_1 600 (fun _ => 0), bA g a_2 1400 (fun _ => 0), bA g a_3 32 (fun _ => 0), iA g a_4 64 (fun _ => 0), iA g a_5 8 (fun _ => 0), iA g a_6 8 (tk s_first 8), iA g a_7 64 (upd (tk s_cube 61) 61 (-1538233109))] rfl dX11_init_466 ?_
  refine j_w [oB h 11 [.ref a_1, .int (nI 0), .ref a_2, .int (nI 0), .ref a_3, .ref a_4, .ref a_5, .ref a_6, .null, .null, .null, .null, .null, .null, .int (nI 0), .int (nI 0), .int (nI 0), .int (nI 0), .int (nI 0), .int (nI 0), .int (nI 0), .int (nI 0), .int (nI 0), .null, .int (nI 0), .int (nI 0), .int (nI 0), .int (nI 0), .int (nI 0), .null, .null, .null, .null, .null, .null, .null, .null, .null, .null, .int (nI 0), .null, .null, .null], bA g a_1 600 (fun _ => 0), bA g a_2 1400 (fun _ => 0), bA g a_3 32 (fun _ => 0), iA g a_4 64 (fun _ => 0), iA g a_5 8 (fun _ => 0), iA g a_6 8 (tk s_first 8), iA g a_7 64 (tk s_cube 62)] (by rw [tk_step (show ((-1538233109) : Int32) = s_cube.getD 61 0 from rfl)]) ?_
  refine j_dup hX dX11_init_467 rfl ?_
  refine j_bipush hX (62) dX11_init_468 (by decide) ?_
  refine j_pc 470 rfl ?_
  refine j_ldc hX dX11_init_470 (List.mem_of_getElem? (i := 82) rfl) ?_
  refine j_iastN hX 7 62 rfl (by omega) (by omega) [oB h 11 [.ref a_1, .int (nI 0), .ref a_2, .int (nI 0), .ref a_3, .ref a_4, .ref a_5, .ref a_6, .null, .null, .null, .null, .null, .null, .int (nI 0), .int (nI 0), .int (nI 0), .int (nI 0), .int (nI 0), .int (nI 0), .int (nI 0), .int (nI 0), .int (nI 0), .null, .int (nI 0), .int (nI 0), .int (nI 0), .int (nI 0), .int (nI 0), .null, .null, .null, .null, .null, .null, .null, .null, .null, .null, .int (nI 0), .null, .null, .null], bA g a_1 600 (fun _ => 0), bA g a_2 1400 (fun _ => 0), bA g a_3 32 (fun _ => 0), iA g a_4 64 (fun _ => 0), iA g a_5 8 (fun _ => 0), iA g a_6 8 (tk s_first 8), iA g a_7 64 (upd (tk s_cube 62) 62 (-1090935817))] rfl dX11_init_472 ?_
  refine j_w [oB h 11 [.ref a_1, .int (nI 0), .ref a_2, .int (nI 0), .ref a_3, .ref a_4, .ref a_5, .ref a_6, .null, .null, .null, .null, .null, .null, .int (nI 0), .int (nI 0), .int (nI 0), .int (nI 0), .int (nI 0), .int (nI 0), .int (nI 0), .int (nI 0), .int (nI 0), .null, .int (nI 0), .int (nI 0), .int (nI 0), .int (nI 0), .int (nI 0), .null, .null, .null, .null, .null, .null, .null, .null, .null, .null, .int (nI 0), .null, .null, .null], bA g a_1 600 (fun _ => 0), bA g a_2 1400 (fun _ => 0), bA g a_3 32 (fun _ => 0), iA g a_4 64 (fun _ => 0), iA g a_5 8 (fun _ => 0), iA g a_6 8 (tk s_first 8), iA g a_7 64 (tk s_cube 63)] (by rw [tk_step (show ((-1090935817) : Int32) = s_cube.getD 62 0 from rfl)]) ?_
  refine j_dup hX dX11_init_473 rfl ?_
  refine j_bipush hX (63) dX11_init_474 (by decide) ?_
  refine j_ldc hX dX11_init_476 (List.mem_of_getElem? (i := 83) rfl) ?_
  refine j_iastN hX 7 63 rfl (by omega) (by omega) [oB h 11 [.ref a_1, .int (nI 0), .ref a_2, .int (nI 0), .ref a_3, .ref a_4, .ref a_5, .ref a_6, .null, .null, .null, .null, .null, .null, .int (nI 0), .int (nI 0), .int (nI 0), .int (nI 0), .int (nI 0), .int (nI 0), .int (nI 0), .int (nI 0), .int (nI 0), .null, .int (nI 0), .int (nI 0), .int (nI 0), .int (nI 0), .int (nI 0), .null, .null, .null, .null, .null, .null, .null, .null, .null, .null, .int (nI 0), .null, .null, .null], bA g a_1 600 (fun _ => 0), bA g a_2 1400 (fun _ => 0), bA g a_3 32 (fun _ => 0), iA g a_4 64 (fun _ => 0), iA g a_5 8 (fun _ => 0), iA g a_6 8 (tk s_first 8), iA g a_7 64 (upd (tk s_cube 63) 63 (-965641998))] rfl dX11_init_478 ?_
  refine j_w [oB h 11 [.ref a_1, .int (nI 0), .ref a_2, .int (nI 0), .ref a_3, .ref a_4, .ref a_5, .ref a_6, .null, .null, .null, .null, .null, .null, .int (nI 0), .int (nI 0), .int (nI 0), .int (nI 0), .int (nI 0), .int (nI 0), .int (nI 0), .int (nI 0), .int (nI 0), .null, .int (nI 0), .int (nI 0), .int (nI 0), .int (nI 0), .int (nI 0), .null, .null, .null, .null, .null, .null, .null, .null, .null, .null, .int (nI 0), .null, .null, .null], bA g a_1 600 (fun _ => 0), bA g a_2 1400 (fun _ => 0), bA g a_3 32 (fun _ => 0), iA g a_4 64 (fun _ => 0), iA g a_5 8 (fun _ => 0), iA g a_6 8 (tk s_first 8), iA g a_7 64 (tk s_cube 64)] (by rw [tk_step (show ((-965641998) : Int32) = s_cube.getD 63 0 from rfl)]) ?_
  refine j_putF hX hin (v := .ref a_7) in11 tyX11 tyX11_ok nmX11 11 0 8 rfl rfl (by decide) (List.mem_of_getElem? (i := 84) rfl) rfl rfl rfl rfl rfl rfl (Nat.le_of_ble_eq_true rfl) [oB h 11 [.ref a_1, .int (nI 0), .ref a_2, .int (nI 0), .ref a_3, .ref a_4, .ref a_5, .ref a_6, .ref a_7, .null, .null, .null, .null, .null, .int (nI 0), .int (nI 0), .int (nI 0), .int (nI 0), .int (nI 0), .int (nI 0), .int (nI 0), .int (nI 0), .int (nI 0), .null, .int (nI 0), .int (nI 0), .int (nI 0), .int (nI 0), .int (nI 0), .null, .null, .null, .null, .null, .null, .null, .null, .null, .null, .int (nI 0), .null, .null, .null], bA g a_1 600 (fun _ => 0), bA g a_2 1400 (fun _ => 0), bA g a_3 32 (fun _ => 0), iA g a_4 64 (fun _ => 0), iA g a_5 8 (fun _ => 0), iA g a_6 8 (tk s_first 8), iA g a_7 64 (tk s_cube 64)] rfl dX11_init_479 ?_
  refine j_aload_n hX 0 dX11_init_482 rfl ?_
  refine j_pc 483 rfl ?_
  refine j_bipush hX (25) dX11_init_483 (by decide) ?_
  refine j_st [.int (nI 25), .ref h] rfl ?_
  refine j_newa hX (ty := .long) (n := 25) (a0 := (25, .inr (.inl (fun _ => 0)))) 2 rfl (fun _ _ => rfl) (List.mem_of_getElem? (i := 85) rfl) rfl (fun _ => rfl) (by decide) (by decide) (Nat.le_of_ble_eq_true rfl) (Nat.le_of_ble_eq_true rfl) dX11_init_485 (fun a_8 => ?_)
  refine j_w [oB h 11 [.ref a_1, .int (nI 0), .ref a_2, .int (nI 0), .ref a_3, .ref a_4, .ref a_5, .ref a_6, .ref a_7, .null, .null, .null, .null, .null, .int (nI 0), .int (nI 0), .int (nI 0), .int (nI 0), .int (nI 0), .int (nI 0), .int (nI 0), .int (nI 0), .int (nI 0), .null, .int (nI 0), .int (nI 0), .int (nI 0), .int (nI 0), .int (nI 0), .null, .null, .null, .null, .null, .null, .null, .null, .null, .null, .int (nI 0), .null, .null, .null], bA g a_1 600 (fun _ => 0), bA g a_2 1400 (fun _ => 0), bA g a_3 32 (fun _ => 0), iA g a_4 64 (fun _ => 0), iA g a_5 8 (fun _ => 0), iA g a_6 8 (tk s_first 8), iA g a_7 64 (tk s_cube 64), lA g a_8 25 (fun _ => 0)] rfl ?_
  refine j_putF hX hin (v := .ref a_8) in11 tyX11 tyX11_ok nmX11 11 0 9 rfl rfl (by decide) (List.mem_of_getElem? (i := 86) rfl) rfl rfl rfl rfl rfl rfl (Nat.le_of_ble_eq_true rfl) [oB h 11 [.ref a_1, .int (nI 0), .ref a_2, .int (nI 0), .ref a_3, .ref a_4, .ref a_5, .ref a_6, .ref a_7, .ref a_8, .null, .null, .null, .null, .int (nI 0), .int (nI 0), .int (nI 0), .int (nI 0), .int (nI 0), .int (nI 0), .int (nI 0), .int (nI 0), .int (nI 0), .null, .int (nI 0), .int (nI 0), .int (nI 0), .int (nI 0), .int (nI 0), .null, .null, .null, .null, .null, .null, .null, .null, .null, .null, .int (nI 0), .null, .null, .null], bA g a_1 600 (fun _ => 0), bA g a_2 1400 (fun _ => 0), bA g a_3 32 (fun _ => 0), iA g a_4 64 (fun _ => 0), iA g a_5 8 (fun _ => 0), iA g a_6 8 (tk s_first 8), iA g a_7 64 (tk s_cube 64), lA g a_8 25 (fun _ => 0)] rfl dX11_init_487 ?_
  refine j_aload_n hX 0 dX11_init_490 rfl ?_
  refine j_bipush hX (25) dX11_init_491 (by decide) ?_
  refine j_st [.int (nI 25), .ref h] rfl ?_
  refine j_newa hX (ty := .long) (n := 25) (a0 := (25, .inr (.inl (fun _ => 0)))) 2 rfl (fun _ _ => rfl) (List.mem_of_getElem? (i := 85) rfl) rfl (fun _ => rfl) (by decide) (by decide) (Nat.le_of_ble_eq_true rfl) (Nat.le_of_ble_eq_true rfl) dX11_init_493 (fun a_9 => ?_)
  refine j_w [oB h 11 [.ref a_1, .int (nI 0), .ref a_2, .int (nI 0), .ref a_3, .ref a_4, .ref a_5, .ref a_6, .ref a_7, .ref a_8, .null, .null, .null, .null, .int (nI 0), .int (nI 0), .int (nI 0), .int (nI 0), .int (nI 0), .int (nI 0), .int (nI 0), .int (nI 0), .int (nI 0), .null, .int (nI 0), .int (nI 0), .int (nI 0), .int (nI 0), .int (nI 0), .null, .null, .null, .null, .null, .null, .null, .null, .null, .null, .int (nI 0), .null, .null, .null], bA g a_1 600 (fun _ => 0), bA g a_2 1400 (fun _ => 0), bA g a_3 32 (fun _ => 0), iA g a_4 64 (fun _ => 0), iA g a_5 8 (fun _ => 0), iA g a_6 8 (tk s_first 8), iA g a_7 64 (tk s_cube 64), lA g a_8 25 (fun _ => 0), lA g a_9 25 (fun _ => 0)] rfl ?_
  refine j_putF hX hin (v := .ref a_9) in11 tyX11 tyX11_ok nmX11 11 0 10 rfl rfl (by decide) (List.mem_of_getElem? (i := 87) rfl) rfl rfl rfl rfl rfl rfl (Nat.le_of_ble_eq_true rfl) [oB h 11 [.ref a_1, .int (nI 0), .ref a_2, .int (nI 0), .ref a_3, .ref a_4, .ref a_5, .ref a_6, .ref a_7, .ref a_8, .ref a_9, .null, .null, .null, .int (nI 0), .int (nI 0), .int (nI 0), .int (nI 0), .int (nI 0), .int (nI 0), .int (nI 0), .int (nI 0), .int (nI 0), .null, .int (nI 0), .int (nI 0), .int (nI 0), .int (nI 0), .int (nI 0), .null, .null, .null, .null, .null, .null, .null, .null, .null, .null, .int (nI 0), .null, .null, .null], bA g a_1 600 (fun _ => 0), bA g a_2 1400 (fun _ => 0), bA g a_3 32 (fun _ => 0), iA g a_4 64 (fun _ => 0), iA g a_5 8 (fun _ => 0), iA g a_6 8 (tk s_first 8), iA g a_7 64 (tk s_cube 64), lA g a_8 25 (fun _ => 0), lA g a_9 25 (fun _ => 0)] rfl dX11_init_495 ?_
  refine j_aload_n hX 0 dX11_init_498 rfl ?_
  refine j_pc 499 rfl ?_
  refine j_iconst hX (5) dX11_init_499 (by decide) ?_
  refine j_st [.int (nI 5), .ref h] rfl ?_
  refine j_newa hX (ty := .long) (n := 5) (a0 := (5, .inr (.inl (fun _ => 0)))) 2 rfl (fun _ _ => rfl) (List.mem_of_getElem? (i := 85) rfl) rfl (fun _ => rfl) (by decide) (by decide) (Nat.le_of_ble_eq_true rfl) (Nat.le_of_ble_eq_true rfl) dX11_init_500 (fun a_10 => ?_)
  refine j_w [oB h 11 [.ref a_1, .int (nI 0), .ref a_2, .int (nI 0), .ref a_3, .ref a_4, .ref a_5, .ref a_6, .ref a_7, .ref a_8, .ref a_9, .null, .null, .null, .int (nI 0), .int (nI 0), .int (nI 0), .int (nI 0), .int (nI 0), .int (nI 0), .int (nI 0), .int (nI 0), .int (nI 0), .null, .int (nI 0), .int (nI 0), .int (nI 0), .int (nI 0), .int (nI 0), .null, .null, .null, .null, .null, .null, .null, .null, .null, .null, .int (nI 0), .null, .null, .null], bA g a_1 600 (fun _ => 0), bA g a_2 1400 (fun _ => 0), bA g a_3 32 (fun _ => 0), iA g a_4 64 (fun _ => 0), iA g a_5 8 (fun _ => 0), iA g a_6 8 (tk s_first 8), iA g a_7 64 (tk s_cube 64), lA g a_8 25 (fun _ => 0), lA g a_9 25 (fun _ => 0), lA g a_10 5 (fun _ => 0)] rfl ?_
  refine j_putF hX hin (v := .ref a_10) in11 tyX11 tyX11_ok nmX11 11 0 11 rfl rfl (by decide) (List.mem_of_getElem? (i := 88) rfl) rfl rfl rfl rfl rfl rfl (Nat.le_of_ble_eq_true rfl) [oB h 11 [.ref a_1, .int (nI 0), .ref a_2, .int (nI 0), .ref a_3, .ref a_4, .ref a_5, .ref a_6, .ref a_7, .ref a_8, .ref a_9, .ref a_10, .null, .null, .int (nI 0), .int (nI 0), .int (nI 0), .int (nI 0), .int (nI 0), .int (nI 0), .int (nI 0), .int (nI 0), .int (nI 0), .null, .int (nI 0), .int (nI 0), .int (nI 0), .int (nI 0), .int (nI 0), .null, .null, .null, .null, .null, .null, .null, .null, .null, .null, .int (nI 0), .null, .null, .null], bA g a_1 600 (fun _ => 0), bA g a_2 1400 (fun _ => 0), bA g a_3 32 (fun _ => 0), iA g a_4 64 (fun _ => 0), iA g a_5 8 (fun _ => 0), iA g a_6 8 (tk s_first 8), iA g a_7 64 (tk s_cube 64), lA g a_8 25 (fun _ => 0), lA g a_9 25 (fun _ => 0), lA g a_10 5 (fun _ => 0)] rfl dX11_init_502 ?_
  refine j_aload_n hX 0 dX11_init_505 rfl ?_
  refine j_bipush hX (25) dX11_init_506 (by decide) ?_
  refine j_st [.int (nI 25), .ref h] rfl ?_
  refine j_newa hX (ty := .int) (n := 25) (a0 := (25, .inl (fun _ => 0))) 1 rfl (fun _ _ => rfl) (List.mem_of_getElem? (i := 8) rfl) rfl (fun _ => rfl) (by decide) (by decide) (Nat.le_of_ble_eq_true rfl) (Nat.le_of_ble_eq_true rfl) dX11_init_508 (fun a_11 => ?_)
  refine j_w [oB h 11 [.ref a_1, .int (nI 0), .ref a_2, .int (nI 0), .ref a_3, .ref a_4, .ref a_5, .ref a_6, .ref a_7, .ref a_8, .ref a_9, .ref a_10, .null, .null, .int (nI 0), .int (nI 0), .int (nI 0), .int (nI 0), .int (nI 0), .int (nI 0), .int (nI 0), .int (nI 0), .int (nI 0), .null, .int (nI 0), .int (nI 0), .int (nI 0), .int (nI 0), .int (nI 0), .null, .null, .null, .null, .null, .null, .null, .null, .null, .null, .int (nI 0), .null, .null, .null], bA g a_1 600 (fun _ => 0), bA g a_2 1400 (fun _ => 0), bA g a_3 32 (fun _ => 0), iA g a_4 64 (fun _ => 0), iA g a_5 8 (fun _ => 0), iA g a_6 8 (tk s_first 8), iA g a_7 64 (tk s_cube 64), lA g a_8 25 (fun _ => 0), lA g a_9 25 (fun _ => 0), lA g a_10 5 (fun _ => 0), iA g a_11 25 (fun _ => 0)] rfl ?_
  refine j_putF hX hin (v := .ref a_11) in11 tyX11 tyX11_ok nmX11 11 0 12 rfl rfl (by decide) (List.mem_of_getElem? (i := 89) rfl) rfl rfl rfl rfl rfl rfl (Nat.le_of_ble_eq_true rfl) [oB h 11 [.ref a_1, .int (nI 0), .ref a_2, .int (nI 0), .ref a_3, .ref a_4, .ref a_5, .ref a_6, .ref a_7, .ref a_8, .ref a_9, .ref a_10, .ref a_11, .null, .int (nI 0), .int (nI 0), .int (nI 0), .int (nI 0), .int (nI 0), .int (nI 0), .int (nI 0), .int (nI 0), .int (nI 0), .null, .int (nI 0), .int (nI 0), .int (nI 0), .int (nI 0), .int (nI 0), .null, .null, .null, .null, .null, .null, .null, .null, .null, .null, .int (nI 0), .null, .null, .null], bA g a_1 600 (fun _ => 0), bA g a_2 1400 (fun _ => 0), bA g a_3 32 (fun _ => 0), iA g a_4 64 (fun _ => 0), iA g a_5 8 (fun _ => 0), iA g a_6 8 (tk s_first 8), iA g a_7 64 (tk s_cube 64), lA g a_8 25 (fun _ => 0), lA g a_9 25 (fun _ => 0), lA g a_10 5 (fun _ => 0), iA g a_11 25 (fun _ => 0)] rfl dX11_init_510 ?_
  refine j_aload_n hX 0 dX11_init_513 rfl ?_
  refine j_pc 514 rfl ?_
  refine j_bipush hX (32) dX11_init_514 (by decide) ?_
  refine j_st [.int (nI 32), .ref h] rfl ?_
  refine j_newa hX (ty := .byte) (n := 32) (a0 := (32, .inl (fun _ => 0))) 0 rfl (fun _ _ => rfl) (List.mem_of_getElem? (i := 4) rfl) rfl (fun _ => rfl) (by decide) (by decide) (Nat.le_of_ble_eq_true rfl) (Nat.le_of_ble_eq_true rfl) dX11_init_516 (fun a_12 => ?_)
  refine j_w [oB h 11 [.ref a_1, .int (nI 0), .ref a_2, .int (nI 0), .ref a_3, .ref a_4, .ref a_5, .ref a_6, .ref a_7, .ref a_8, .ref a_9, .ref a_10, .ref a_11, .null, .int (nI 0), .int (nI 0), .int (nI 0), .int (nI 0), .int (nI 0), .int (nI 0), .int (nI 0), .int (nI 0), .int (nI 0), .null, .int (nI 0), .int (nI 0), .int (nI 0), .int (nI 0), .int (nI 0), .null, .null, .null, .null, .null, .null, .null, .null, .null, .null, .int (nI 0), .null, .null, .null], bA g a_1 600 (fun _ => 0), bA g a_2 1400 (fun _ => 0), bA g a_3 32 (fun _ => 0), iA g a_4 64 (fun _ => 0), iA g a_5 8 (fun _ => 0), iA g a_6 8 (tk s_first 8), iA g a_7 64 (tk s_cube 64), lA g a_8 25 (fun _ => 0), lA g a_9 25 (fun _ => 0), lA g a_10 5 (fun _ => 0), iA g a_11 25 (fun _ => 0), bA g a_12 32 (fun _ => 0)] rfl ?_
  refine j_putF hX hin (v := .ref a_12) in11 tyX11 tyX11_ok nmX11 11 0 13 rfl rfl (by decide) (List.mem_of_getElem? (i := 90) rfl) rfl rfl rfl rfl rfl rfl (Nat.le_of_ble_eq_true rfl) [oB h 11 [.ref a_1, .int (nI 0), .ref a_2, .int (nI 0), .ref a_3, .ref a_4, .ref a_5, .ref a_6, .ref a_7, .ref a_8, .ref a_9, .ref a_10, .ref a_11, .ref a_12, .int (nI 0), .int (nI 0), .int (nI 0), .int (nI 0), .int (nI 0), .int (nI 0), .int (nI 0), .int (nI 0), .int (nI 0), .null, .int (nI 0), .int (nI 0), .int (nI 0), .int (nI 0), .int (nI 0), .null, .null, .null, .null, .null, .null, .null, .null, .null, .null, .int (nI 0), .null, .null, .null], bA g a_1 600 (fun _ => 0), bA g a_2 1400 (fun _ => 0), bA g a_3 32 (fun _ => 0), iA g a_4 64 (fun _ => 0), iA g a_5 8 (fun _ => 0), iA g a_6 8 (tk s_first 8), iA g a_7 64 (tk s_cube 64), lA g a_8 25 (fun _ => 0), lA g a_9 25 (fun _ => 0), lA g a_10 5 (fun _ => 0), iA g a_11 25 (fun _ => 0), bA g a_12 32 (fun _ => 0)] rfl dX11_init_518 ?_
  refine j_aload_n hX 0 dX11_init_521 rfl ?_
  refine j_bipush hX (48) dX11_init_522 (by decide) ?_
  refine j_st [.int (nI 48), .ref h] rfl ?_
  refine j_newa hX (ty := .byte) (n := 48) (a0 := (48, .inl (fun _ => 0))) 0 rfl (fun _ _ => rfl) (List.mem_of_getElem? (i := 4) rfl) rfl (fun _ => rfl) (by decide) (by decide) (Nat.le_of_ble_eq_true rfl) (Nat.le_of_ble_eq_true rfl) dX11_init_524 (fun a_13 => ?_)
  refine j_w [oB h 11 [.ref a_1, .int (nI 0), .ref a_2, .int (nI 0), .ref a_3, .ref a_4, .ref a_5, .ref a_6, .ref a_7, .ref a_8, .ref a_9, .ref a_10, .ref a_11, .ref a_12, .int (nI 0), .int (nI 0), .int (nI 0), .int (nI 0), .int (nI 0), .int (nI 0), .int (nI 0), .int (nI 0), .int (nI 0), .null, .int (nI 0), .int (nI 0), .int (nI 0), .int (nI 0), .int (nI 0), .null, .null, .null, .null, .null, .null, .null, .null, .null, .null, .int (nI 0), .null, .null, .null], bA g a_1 600 (fun _ => 0), bA g a_2 1400 (fun _ => 0), bA g a_3 32 (fun _ => 0), iA g a_4 64 (fun _ => 0), iA g a_5 8 (fun _ => 0), iA g a_6 8 (tk s_first 8), iA g a_7 64 (tk s_cube 64), lA g a_8 25 (fun _ => 0), lA g a_9 25 (fun _ => 0), lA g a_10 5 (fun _ => 0), iA g a_11 25 (fun _ => 0), bA g a_12 32 (fun _ => 0), bA g a_13 48 (fun _ => 0)] rfl ?_
  refine j_putF hX hin (v := .ref a_13) in11 tyX11 tyX11_ok nmX11 11 0 23 rfl rfl (by decide) (List.mem_of_getElem? (i := 91) rfl) rfl rfl rfl rfl rfl rfl (Nat.le_of_ble_eq_true rfl) [oB h 11 [.ref a_1, .int (nI 0), .ref a_2, .int (nI 0), .ref a_3, .ref a_4, .ref a_5, .ref a_6, .ref a_7, .ref a_8, .ref a_9, .ref a_10, .ref a_11, .ref a_12, .int (nI 0), .int (nI 0), .int (nI 0), .int (nI 0), .int (nI 0), .int (nI 0), .int (nI 0), .int (nI 0), .int (nI 0), .ref a_13, .int (nI 0), .int (nI 0), .int (nI 0), .int (nI 0), .int (nI 0), .null, .null, .null, .null, .null, .null, .null, .null, .null, .null, .int (nI 0), .null, .null, .null], bA g a_1 600 (fun _ => 0), bA g a_2 1400 (fun _ => 0), bA g a_3 32 (fun _ => 0), iA g a_4 64 (fun _ => 0), iA g a_5 8 (fun _ => 0), iA g a_6 8 (tk s_first 8), iA g a_7 64 (tk s_cube 64), lA g a_8 25 (fun _ => 0), lA g a_9 25 (fun _ => 0), lA g a_10 5 (fun _ => 0), iA g a_11 25 (fun _ => 0), bA g a_12 32 (fun _ => 0), bA g a_13 48 (fun _ => 0)] rfl dX11_init_526 ?_
  refine j_aload_n hX 0 dX11_init_529 rfl ?_
  refine j_pc 530 rfl ?_
  refine j_bipush hX (40) dX11_init_530 (by decide) ?_
  refine j_st [.int (nI 40), .ref h] rfl ?_
  refine j_newa hX (ty := .int) (n := 40) (a0 := (40, .inl (fun _ => 0))) 1 rfl (fun _ _ => rfl) (List.mem_of_getElem? (i := 8) rfl) rfl (fun _ => rfl) (by decide) (by decide) (Nat.le_of_ble_eq_true rfl) (Nat.le_of_ble_eq_true rfl) dX11_init_532 (fun a_14 => ?_)
  refine j_w [oB h 11 [.ref a_1, .int (nI 0), .ref a_2, .int (nI 0), .ref a_3, .ref a_4, .ref a_5, .ref a_6, .ref a_7, .ref a_8, .ref a_9, .ref a_10, .ref a_11, .ref a_12, .int (nI 0), .int (nI 0), .int (nI 0), .int (nI 0), .int (nI 0), .int (nI 0), .int (nI 0), .int (nI 0), .int (nI 0), .ref a_13, .int (nI 0), .int (nI 0), .int (nI 0), .int (nI 0), .int (nI 0), .null, .null, .null, .null, .null, .null, .null, .null, .null, .null, .int (nI 0), .null, .null, .null], bA g a_1 600 (fun _ => 0), bA g a_2 1400 (fun _ => 0), bA g a_3 32 (fun _ => 0), iA g a_4 64 (fun _ => 0), iA g a_5 8 (fun _ => 0), iA g a_6 8 (tk s_first 8), iA g a_7 64 (tk s_cube 64), lA g a_8 25 (fun _ => 0), lA g a_9 25 (fun _ => 0), lA g a_10 5 (fun _ => 0), iA g a_11 25 (fun _ => 0), bA g a_12 32 (fun _ => 0), bA g a_13 48 (fun _ => 0), iA g a_14 40 (fun _ => 0)] rfl ?_
  refine j_putF hX hin (v := .ref a_14) in11 tyX11 tyX11_ok nmX11 11 0 29 rfl rfl (by decide) (List.mem_of_getElem? (i := 92) rfl) rfl rfl rfl rfl rfl rfl (Nat.le_of_ble_eq_true rfl) [oB h 11 [.ref a_1, .int (nI 0), .ref a_2, .int (nI 0), .ref a_3, .ref a_4, .ref a_5, .ref a_6, .ref a_7, .ref a_8, .ref a_9, .ref a_10, .ref a_11, .ref a_12, .int (nI 0), .int (nI 0), .int (nI 0), .int (nI 0), .int (nI 0), .int (nI 0), .int (nI 0), .int (nI 0), .int (nI 0), .ref a_13, .int (nI 0), .int (nI 0), .int (nI 0), .int (nI 0), .int (nI 0), .ref a_14, .null, .null, .null, .null, .null, .null, .null, .null, .null, .int (nI 0), .null, .null, .null], bA g a_1 600 (fun _ => 0), bA g a_2 1400 (fun _ => 0), bA g a_3 32 (fun _ => 0), iA g a_4 64 (fun _ => 0), iA g a_5 8 (fun _ => 0), iA g a_6 8 (tk s_first 8), iA g a_7 64 (tk s_cube 64), lA g a_8 25 (fun _ => 0), lA g a_9 25 (fun _ => 0), lA g a_10 5 (fun _ => 0), iA g a_11 25 (fun _ => 0), bA g a_12 32 (fun _ => 0), bA g a_13 48 (fun _ => 0), iA g a_14 40 (fun _ => 0)] rfl dX11_init_534 ?_
  refine j_aload_n hX 0 dX11_init_537 rfl ?_
  refine j_sipush hX (560) dX11_init_538 (by decide) ?_
  refine j_st [.int (nI 560), .ref h] rfl ?_
  refine j_newa hX (ty := .byte) (n := 560) (a0 := (560, .inl (fun _ => 0))) 0 rfl (fun _ _ => rfl) (List.mem_of_getElem? (i := 4) rfl) rfl (fun _ => rfl) (by decide) (by decide) (Nat.le_of_ble_eq_true rfl) (Nat.le_of_ble_eq_true rfl) dX11_init_541 (fun a_15 => ?_)
  refine j_w [oB h 11 [.ref a_1, .int (nI 0), .ref a_2, .int (nI 0), .ref a_3, .ref a_4, .ref a_5, .ref a_6, .ref a_7, .ref a_8, .ref a_9, .ref a_10, .ref a_11, .ref a_12, .int (nI 0), .int (nI 0), .int (nI 0), .int (nI 0), .int (nI 0), .int (nI 0), .int (nI 0), .int (nI 0), .int (nI 0), .ref a_13, .int (nI 0), .int (nI 0), .int (nI 0), .int (nI 0), .int (nI 0), .ref a_14, .null, .null, .null, .null, .null, .null, .null, .null, .null, .int (nI 0), .null, .null, .null], bA g a_1 600 (fun _ => 0), bA g a_2 1400 (fun _ => 0), bA g a_3 32 (fun _ => 0), iA g a_4 64 (fun _ => 0), iA g a_5 8 (fun _ => 0), iA g a_6 8 (tk s_first 8), iA g a_7 64 (tk s_cube 64), lA g a_8 25 (fun _ => 0), lA g a_9 25 (fun _ => 0), lA g a_10 5 (fun _ => 0), iA g a_11 25 (fun _ => 0), bA g a_12 32 (fun _ => 0), bA g a_13 48 (fun _ => 0), iA g a_14 40 (fun _ => 0), bA g a_15 560 (fun _ => 0)] rfl ?_
  refine j_putF hX hin (v := .ref a_15) in11 tyX11 tyX11_ok nmX11 11 0 30 rfl rfl (by decide) (List.mem_of_getElem? (i := 93) rfl) rfl rfl rfl rfl rfl rfl (Nat.le_of_ble_eq_true rfl) [oB h 11 [.ref a_1, .int (nI 0), .ref a_2, .int (nI 0), .ref a_3, .ref a_4, .ref a_5, .ref a_6, .ref a_7, .ref a_8, .ref a_9, .ref a_10, .ref a_11, .ref a_12, .int (nI 0), .int (nI 0), .int (nI 0), .int (nI 0), .int (nI 0), .int (nI 0), .int (nI 0), .int (nI 0), .int (nI 0), .ref a_13, .int (nI 0), .int (nI 0), .int (nI 0), .int (nI 0), .int (nI 0), .ref a_14, .ref a_15, .null, .null, .null, .null, .null, .null, .null, .null, .int (nI 0), .null, .null, .null], bA g a_1 600 (fun _ => 0), bA g a_2 1400 (fun _ => 0), bA g a_3 32 (fun _ => 0), iA g a_4 64 (fun _ => 0), iA g a_5 8 (fun _ => 0), iA g a_6 8 (tk s_first 8), iA g a_7 64 (tk s_cube 64), lA g a_8 25 (fun _ => 0), lA g a_9 25 (fun _ => 0), lA g a_10 5 (fun _ => 0), iA g a_11 25 (fun _ => 0), bA g a_12 32 (fun _ => 0), bA g a_13 48 (fun _ => 0), iA g a_14 40 (fun _ => 0), bA g a_15 560 (fun _ => 0)] rfl dX11_init_543 ?_
  refine j_aload_n hX 0 dX11_init_546 rfl ?_
  refine j_pc 547 rfl ?_
  refine j_bipush hX (112) dX11_init_547 (by decide) ?_
  refine j_st [.int (nI 112), .ref h] rfl ?_
  refine j_newa hX (ty := .byte) (n := 112) (a0 := (112, .inl (fun _ => 0))) 0 rfl (fun _ _ => rfl) (List.mem_of_getElem? (i := 4) rfl) rfl (fun _ => rfl) (by decide) (by decide) (Nat.le_of_ble_eq_true rfl) (Nat.le_of_ble_eq_true rfl) dX11_init_549 (fun a_16 => ?_)
  refine j_w [oB h 11 [.ref a_1, .int (nI 0), .ref a_2, .int (nI 0), .ref a_3, .ref a_4, .ref a_5, .ref a_6, .ref a_7, .ref a_8, .ref a_9, .ref a_10, .ref a_11, .ref a_12, .int (nI 0), .int (nI 0), .int (nI 0), .int (nI 0), .int (nI 0), .int (nI 0), .int (nI 0), .int (nI 0), .int (nI 0), .ref a_13, .int (nI 0), .int (nI 0), .int (nI 0), .int (nI 0), .int (nI 0), .ref a_14, .ref a_15, .null, .null, .null, .null, .null, .null, .null, .null, .int (nI 0), .null, .null, .null], bA g a_1 600 (fun _ => 0), bA g a_2 1400 (fun _ => 0), bA g a_3 32 (fun _ => 0), iA g a_4 64 (fun _ => 0), iA g a_5 8 (fun _ => 0), iA g a_6 8 (tk s_first 8), iA g a_7 64 (tk s_cube 64), lA g a_8 25 (fun _ => 0), lA g a_9 25 (fun _ => 0), lA g a_10 5 (fun _ => 0), iA g a_11 25 (fun _ => 0), bA g a_12 32 (fun _ => 0), bA g a_13 48 (fun _ => 0), iA g a_14 40 (fun _ => 0), bA g a_15 560 (fun _ => 0), bA g a_16 112 (fun _ => 0)] rfl ?_
  refine j_putF hX hin (v := .ref a_16) in11 tyX11 tyX11_ok nmX11 11 0 31 rfl rfl (by decide) (List.mem_of_getElem? (i := 94) rfl) rfl rfl rfl rfl rfl rfl (Nat.le_of_ble_eq_true rfl) [oB h 11 [.ref a_1, .int (nI 0), .ref a_2, .int (nI 0), .ref a_3, .ref a_4, .ref a_5, .ref a_6, .ref a_7, .ref a_8, .ref a_9, .ref a_10, .ref a_11, .ref a_12, .int (nI 0), .int (nI 0), .int (nI 0), .int (nI 0), .int (nI 0), .int (nI 0), .int (nI 0), .int (nI 0), .int (nI 0), .ref a_13, .int (nI 0), .int (nI 0), .int (nI 0), .int (nI 0), .int (nI 0), .ref a_14, .ref a_15, .ref a_16, .null, .null, .null, .null, .null, .null, .null, .int (nI 0), .null, .null, .null], bA g a_1 600 (fun _ => 0), bA g a_2 1400 (fun _ => 0), bA g a_3 32 (fun _ => 0), iA g a_4 64 (fun _ => 0), iA g a_5 8 (fun _ => 0), iA g a_6 8 (tk s_first 8), iA g a_7 64 (tk s_cube 64), lA g a_8 25 (fun _ => 0), lA g a_9 25 (fun _ => 0), lA g a_10 5 (fun _ => 0), iA g a_11 25 (fun _ => 0), bA g a_12 32 (fun _ => 0), bA g a_13 48 (fun _ => 0), iA g a_14 40 (fun _ => 0), bA g a_15 560 (fun _ => 0), bA g a_16 112 (fun _ => 0)] rfl dX11_init_551 ?_
  refine j_aload_n hX 0 dX11_init_554 rfl ?_
  refine j_bipush hX (16) dX11_init_555 (by decide) ?_
  refine j_st [.int (nI 16), .ref h] rfl ?_
  refine j_newa hX (ty := .byte) (n := 16) (a0 := (16, .inl (fun _ => 0))) 0 rfl (fun _ _ => rfl) (List.mem_of_getElem? (i := 4) rfl) rfl (fun _ => rfl) (by decide) (by decide) (Nat.le_of_ble_eq_true rfl) (Nat.le_of_ble_eq_true rfl) dX11_init_557 (fun a_17 => ?_)
  refine j_w [oB h 11 [.ref a_1, .int (nI 0), .ref a_2, .int (nI 0), .ref a_3, .ref a_4, .ref a_5, .ref a_6, .ref a_7, .ref a_8, .ref a_9, .ref a_10, .ref a_11, .ref a_12, .int (nI 0), .int (nI 0), .int (nI 0), .int (nI 0), .int (nI 0), .int (nI 0), .int (nI 0), .int (nI 0), .int (nI 0), .ref a_13, .int (nI 0), .int (nI 0), .int (nI 0), .int (nI 0), .int (nI 0), .ref a_14, .ref a_15, .ref a_16, .null, .null, .null, .null, .null, .null, .null, .int (nI 0), .null, .null, .null], bA g a_1 600 (fun _ => 0), bA g a_2 1400 (fun _ => 0), bA g a_3 32 (fun _ => 0), iA g a_4 64 (fun _ => 0), iA g a_5 8 (fun _ => 0), iA g a_6 8 (tk s_first 8), iA g a_7 64 (tk s_cube 64), lA g a_8 25 (fun _ => 0), lA g a_9 25 (fun _ => 0), lA g a_10 5 (fun _ => 0), iA g a_11 25 (fun _ => 0), bA g a_12 32 (fun _ => 0), bA g a_13 48 (fun _ => 0), iA g a_14 40 (fun _ => 0), bA g a_15 560 (fun _ => 0), bA g a_16 112 (fun _ => 0), bA g a_17 16 (fun _ => 0)] rfl ?_
  refine j_putF hX hin (v := .ref a_17) in11 tyX11 tyX11_ok nmX11 11 0 32 rfl rfl (by decide) (List.mem_of_getElem? (i := 95) rfl) rfl rfl rfl rfl rfl rfl (Nat.le_of_ble_eq_true rfl) [oB h 11 [.ref a_1, .int (nI 0), .ref a_2, .int (nI 0), .ref a_3, .ref a_4, .ref a_5, .ref a_6, .ref a_7, .ref a_8, .ref a_9, .ref a_10, .ref a_11, .ref a_12, .int (nI 0), .int (nI 0), .int (nI 0), .int (nI 0), .int (nI 0), .int (nI 0), .int (nI 0), .int (nI 0), .int (nI 0), .ref a_13, .int (nI 0), .int (nI 0), .int (nI 0), .int (nI 0), .int (nI 0), .ref a_14, .ref a_15, .ref a_16, .ref a_17, .null, .null, .null, .null, .null, .null, .int (nI 0), .null, .null, .null], bA g a_1 600 (fun _ => 0), bA g a_2 1400 (fun _ => 0), bA g a_3 32 (fun _ => 0), iA g a_4 64 (fun _ => 0), iA g a_5 8 (fun _ => 0), iA g a_6 8 (tk s_first 8), iA g a_7 64 (tk s_cube 64), lA g a_8 25 (fun _ => 0), lA g a_9 25 (fun _ => 0), lA g a_10 5 (fun _ => 0), iA g a_11 25 (fun _ => 0), bA g a_12 32 (fun _ => 0), bA g a_13 48 (fun _ => 0), iA g a_14 40 (fun _ => 0), bA g a_15 560 (fun _ => 0), bA g a_16 112 (fun _ => 0), bA g a_17 16 (fun _ => 0)] rfl dX11_init_559 ?_
  refine j_aload_n hX 0 dX11_init_562 rfl ?_
  refine j_pc 563 rfl ?_
  refine j_sipush hX (496) dX11_init_563 (by decide) ?_
  refine j_st [.int (nI 496), .ref h] rfl ?_
  refine j_newa hX (ty := .byte) (n := 496) (a0 := (496, .inl (fun _ => 0))) 0 rfl (fun _ _ => rfl) (List.mem_of_getElem? (i := 4) rfl) rfl (fun _ => rfl) (by decide) (by decide) (Nat.le_of_ble_eq_true rfl) (Nat.le_of_ble_eq_true rfl) dX11_init_566 (fun a_18 => ?_)
  refine j_w [oB h 11 [.ref a_1, .int (nI 0), .ref a_2, .int (nI 0), .ref a_3, .ref a_4, .ref a_5, .ref a_6, .ref a_7, .ref a_8, .ref a_9, .ref a_10, .ref a_11, .ref a_12, .int (nI 0), .int (nI 0), .int (nI 0), .int (nI 0), .int (nI 0), .int (nI 0), .int (nI 0), .int (nI 0), .int (nI 0), .ref a_13, .int (nI 0), .int (nI 0), .int (nI 0), .int (nI 0), .int (nI 0), .ref a_14, .ref a_15, .ref a_16, .ref a_17, .null, .null, .null, .null, .null, .null, .int (nI 0), .null, .null, .null], bA g a_1 600 (fun _ => 0), bA g a_2 1400 (fun _ => 0), bA g a_3 32 (fun _ => 0), iA g a_4 64 (fun _ => 0), iA g a_5 8 (fun _ => 0), iA g a_6 8 (tk s_first 8), iA g a_7 64 (tk s_cube 64), lA g a_8 25 (fun _ => 0), lA g a_9 25 (fun _ => 0), lA g a_10 5 (fun _ => 0), iA g a_11 25 (fun _ => 0), bA g a_12 32 (fun _ => 0), bA g a_13 48 (fun _ => 0), iA g a_14 40 (fun _ => 0), bA g a_15 560 (fun _ => 0), bA g a_16 112 (fun _ => 0), bA g a_17 16 (fun _ => 0), bA g a_18 496 (fun _ => 0)] rfl ?_
  refine j_putF hX hin (v := .ref a_18) in11 tyX11 tyX11_ok nmX11 11 0 33 rfl rfl (by decide) (List.mem_of_getElem? (i := 96) rfl) rfl rfl rfl rfl rfl rfl (Nat.le_of_ble_eq_true rfl) [oB h 11 [.ref a_1, .int (nI 0), .ref a_2, .int (nI 0), .ref a_3, .ref a_4, .ref a_5, .ref a_6, .ref a_7, .ref a_8, .ref a_9, .ref a_10, .ref a_11, .ref a_12, .int (nI 0), .int (nI 0), .int (nI 0), .int (nI 0), .int (nI 0), .int (nI 0), .int (nI 0), .int (nI 0), .int (nI 0), .ref a_13, .int (nI 0), .int (nI 0), .int (nI 0), .int (nI 0), .int (nI 0), .ref a_14, .ref a_15, .ref a_16, .ref a_17, .ref a_18, .null, .null, .null, .null, .null, .int (nI 0), .null, .null, .null], bA g a_1 600 (fun _ => 0), bA g a_2 1400 (fun _ => 0), bA g a_3 32 (fun _ => 0), iA g a_4 64 (fun _ => 0), iA g a_5 8 (fun _ => 0), iA g a_6 8 (tk s_first 8), iA g a_7 64 (tk s_cube 64), lA g a_8 25 (fun _ => 0), lA g a_9 25 (fun _ => 0), lA g a_10 5 (fun _ => 0), iA g a_11 25 (fun _ => 0), bA g a_12 32 (fun _ => 0), bA g a_13 48 (fun _ => 0), iA g a_14 40 (fun _ => 0), bA g a_15 560 (fun _ => 0), bA g a_16 112 (fun _ => 0), bA g a_17 16 (fun _ => 0), bA g a_18 496 (fun _ => 0)] rfl dX11_init_568 ?_
  refine j_aload_n hX 0 dX11_init_571 rfl ?_
  refine j_bipush hX (32) dX11_init_572 (by decide) ?_
  refine j_st [.int (nI 32), .ref h] rfl ?_
  refine j_newa hX (ty := .byte) (n := 32) (a0 := (32, .inl (fun _ => 0))) 0 rfl (fun _ _ => rfl) (List.mem_of_getElem? (i := 4) rfl) rfl (fun _ => rfl) (by decide) (by decide) (Nat.le_of_ble_eq_true rfl) (Nat.le_of_ble_eq_true rfl) dX11_init_574 (fun a_19 => ?_)
  refine j_w [oB h 11 [.ref a_1, .int (nI 0), .ref a_2, .int (nI 0), .ref a_3, .ref a_4, .ref a_5, .ref a_6, .ref a_7, .ref a_8, .ref a_9, .ref a_10, .ref a_11, .ref a_12, .int (nI 0), .int (nI 0), .int (nI 0), .int (nI 0), .int (nI 0), .int (nI 0), .int (nI 0), .int (nI 0), .int (nI 0), .ref a_13, .int (nI 0), .int (nI 0), .int (nI 0), .int (nI 0), .int (nI 0), .ref a_14, .ref a_15, .ref a_16, .ref a_17, .ref a_18, .null, .null, .null, .null, .null, .int (nI 0), .null, .null, .null], bA g a_1 600 (fun _ => 0), bA g a_2 1400 (fun _ => 0), bA g a_3 32 (fun _ => 0), iA g a_4 64 (fun _ => 0), iA g a_5 8 (fun _ => 0), iA g a_6 8 (tk s_first 8), iA g a_7 64 (tk s_cube 64), lA g a_8 25 (fun _ => 0), lA g a_9 25 (fun _ => 0), lA g a_10 5 (fun _ => 0), iA g a_11 25 (fun _ => 0), bA g a_12 32 (fun _ => 0), bA g a_13 48 (fun _ => 0), iA g a_14 40 (fun _ => 0), bA g a_15 560 (fun _ => 0), bA g a_16 112 (fun _ => 0), bA g a_17 16 (fun _ => 0), bA g a_18 496 (fun _ => 0), bA g a_19 32 (fun _ => 0)] rfl ?_
  refine j_putF hX hin (v := .ref a_19) in11 tyX11 tyX11_ok nmX11 11 0 34 rfl rfl (by decide) (List.mem_of_getElem? (i := 97) rfl) rfl rfl rfl rfl rfl rfl (Nat.le_of_ble_eq_true rfl) [oB h 11 [.ref a_1, .int (nI 0), .ref a_2, .int (nI 0), .ref a_3, .ref a_4, .ref a_5, .ref a_6, .ref a_7, .ref a_8, .ref a_9, .ref a_10, .ref a_11, .ref a_12, .int (nI 0), .int (nI 0), .int (nI 0), .int (nI 0), .int (nI 0), .int (nI 0), .int (nI 0), .int (nI 0), .int (nI 0), .ref a_13, .int (nI 0), .int (nI 0), .int (nI 0), .int (nI 0), .int (nI 0), .ref a_14, .ref a_15, .ref a_16, .ref a_17, .ref a_18, .ref a_19, .null, .null, .null, .null, .int (nI 0), .null, .null, .null], bA g a_1 600 (fun _ => 0), bA g a_2 1400 (fun _ => 0), bA g a_3 32 (fun _ => 0), iA g a_4 64 (fun _ => 0), iA g a_5 8 (fun _ => 0), iA g a_6 8 (tk s_first 8), iA g a_7 64 (tk s_cube 64), lA g a_8 25 (fun _ => 0), lA g a_9 25 (fun _ => 0), lA g a_10 5 (fun _ => 0), iA g a_11 25 (fun _ => 0), bA g a_12 32 (fun _ => 0), bA g a_13 48 (fun _ => 0), iA g a_14 40 (fun _ => 0), bA g a_15 560 (fun _ => 0), bA g a_16 112 (fun _ => 0), bA g a_17 16 (fun _ => 0), bA g a_18 496 (fun _ => 0), bA g a_19 32 (fun _ => 0)] rfl dX11_init_576 ?_
  refine j_aload_n hX 0 dX11_init_579 rfl ?_
  refine j_pc 580 rfl ?_
  refine j_bipush hX (16) dX11_init_580 (by decide) ?_
  refine j_st [.int (nI 16), .ref h] rfl ?_
  refine j_newa hX (ty := .byte) (n := 16) (a0 := (16, .inl (fun _ => 0))) 0 rfl (fun _ _ => rfl) (List.mem_of_getElem? (i := 4) rfl) rfl (fun _ => rfl) (by decide) (by decide) (Nat.le_of_ble_eq_true rfl) (Nat.le_of_ble_eq_true rfl) dX11_init_582 (fun a_20 => ?_)
  refine j_w [oB h 11 [.ref a_1, .int (nI 0), .ref a_2, .int (nI 0), .ref a_3, .ref a_4, .ref a_5, .ref a_6, .ref a_7, .ref a_8, .ref a_9, .ref a_10, .ref a_11, .ref a_12, .int (nI 0), .int (nI 0), .int (nI 0), .int (nI 0), .int (nI 0), .int (nI 0), .int (nI 0), .int (nI 0), .int (nI 0), .ref a_13, .int (nI 0), .int (nI 0), .int (nI 0), .int (nI 0), .int (nI 0), .ref a_14, .ref a_15, .ref a_16, .ref a_17, .ref a_18, .ref a_19, .null, .null, .null, .null, .int (nI 0), .null, .null, .null], bA g a_1 600 (fun _ => 0), bA g a_2 1400 (fun _ => 0), bA g a_3 32 (fun _ => 0), iA g a_4 64 (fun _ => 0), iA g a_5 8 (fun _ => 0), iA g a_6 8 (tk s_first 8), iA g a_7 64 (tk s_cube 64), lA g a_8 25 (fun _ => 0), lA g a_9 25 (fun _ => 0), lA g a_10 5 (fun _ => 0), iA g a_11 25 (fun _ => 0), bA g a_12 32 (fun _ => 0), bA g a_13 48 (fun _ => 0), iA g a_14 40 (fun _ => 0), bA g a_15 560 (fun _ => 0), bA g a_16 112 (fun _ => 0), bA g a_17 16 (fun _ => 0), bA g a_18 496 (fun _ => 0), bA g a_19 32 (fun _ => 0), bA g a_20 16 (fun _ => 0)] rfl ?_
  refine j_putF hX hin (v := .ref a_20) in11 tyX11 tyX11_ok nmX11 11 0 35 rfl rfl (by decide) (List.mem_of_getElem? (i := 98) rfl) rfl rfl rfl rfl rfl rfl (Nat.le_of_ble_eq_true rfl) [oB h 11 [.ref a_1, .int (nI 0), .ref a_2, .int (nI 0), .ref a_3, .ref a_4, .ref a_5, .ref a_6, .ref a_7, .ref a_8, .ref a_9, .ref a_10, .ref a_11, .ref a_12, .int (nI 0), .int (nI 0), .int (nI 0), .int (nI 0), .int (nI 0), .int (nI 0), .int (nI 0), .int (nI 0), .int (nI 0), .ref a_13, .int (nI 0), .int (nI 0), .int (nI 0), .int (nI 0), .int (nI 0), .ref a_14, .ref a_15, .ref a_16, .ref a_17, .ref a_18, .ref a_19, .ref a_20, .null, .null, .null, .int (nI 0), .null, .null, .null], bA g a_1 600 (fun _ => 0), bA g a_2 1400 (fun _ => 0), bA g a_3 32 (fun _ => 0), iA g a_4 64 (fun _ => 0), iA g a_5 8 (fun _ => 0), iA g a_6 8 (tk s_first 8), iA g a_7 64 (tk s_cube 64), lA g a_8 25 (fun _ => 0), lA g a_9 25 (fun _ => 0), lA g a_10 5 (fun _ => 0), iA g a_11 25 (fun _ => 0), bA g a_12 32 (fun _ => 0), bA g a_13 48 (fun _ => 0), iA g a_14 40 (fun _ => 0), bA g a_15 560 (fun _ => 0), bA g a_16 112 (fun _ => 0), bA g a_17 16 (fun _ => 0), bA g a_18 496 (fun _ => 0), bA g a_19 32 (fun _ => 0), bA g a_20 16 (fun _ => 0)] rfl dX11_init_584 ?_
  refine j_aload_n hX 0 dX11_init_587 rfl ?_
  refine j_bipush hX (16) dX11_init_588 (by decide) ?_
  refine j_st [.int (nI 16), .ref h] rfl ?_
  refine j_newa hX (ty := .byte) (n := 16) (a0 := (16, .inl (fun _ => 0))) 0 rfl (fun _ _ => rfl) (List.mem_of_getElem? (i := 4) rfl) rfl (fun _ => rfl) (by decide) (by decide) (Nat.le_of_ble_eq_true rfl) (Nat.le_of_ble_eq_true rfl) dX11_init_590 (fun a_21 => ?_)
  refine j_w [oB h 11 [.ref a_1, .int (nI 0), .ref a_2, .int (nI 0), .ref a_3, .ref a_4, .ref a_5, .ref a_6, .ref a_7, .ref a_8, .ref a_9, .ref a_10, .ref a_11, .ref a_12, .int (nI 0), .int (nI 0), .int (nI 0), .int (nI 0), .int (nI 0), .int (nI 0), .int (nI 0), .int (nI 0), .int (nI 0), .ref a_13, .int (nI 0), .int (nI 0), .int (nI 0), .int (nI 0), .int (nI 0), .ref a_14, .ref a_15, .ref a_16, .ref a_17, .ref a_18, .ref a_19, .ref a_20, .null, .null, .null, .int (nI 0), .null, .null, .null], bA g a_1 600 (fun _ => 0), bA g a_2 1400 (fun _ => 0), bA g a_3 32 (fun _ => 0), iA g a_4 64 (fun _ => 0), iA g a_5 8 (fun _ => 0), iA g a_6 8 (tk s_first 8), iA g a_7 64 (tk s_cube 64), lA g a_8 25 (fun _ => 0), lA g a_9 25 (fun _ => 0), lA g a_10 5 (fun _ => 0), iA g a_11 25 (fun _ => 0), bA g a_12 32 (fun _ => 0), bA g a_13 48 (fun _ => 0), iA g a_14 40 (fun _ => 0), bA g a_15 560 (fun _ => 0), bA g a_16 112 (fun _ => 0), bA g a_17 16 (fun _ => 0), bA g a_18 496 (fun _ => 0), bA g a_19 32 (fun _ => 0), bA g a_20 16 (fun _ => 0), bA g a_21 16 (fun _ => 0)] rfl ?_
  refine j_putF hX hin (v := .ref a_21) in11 tyX11 tyX11_ok nmX11 11 0 36 rfl rfl (by decide) (List.mem_of_getElem? (i := 99) rfl) rfl rfl rfl rfl rfl rfl (Nat.le_of_ble_eq_true rfl) [oB h 11 [.ref a_1, .int (nI 0), .ref a_2, .int (nI 0), .ref a_3, .ref a_4, .ref a_5, .ref a_6, .ref a_7, .ref a_8, .ref a_9, .ref a_10, .ref a_11, .ref a_12, .int (nI 0), .int (nI 0), .int (nI 0), .int (nI 0), .int (nI 0), .int (nI 0), .int (nI 0), .int (nI 0), .int (nI 0), .ref a_13, .int (nI 0), .int (nI 0), .int (nI 0), .int (nI 0), .int (nI 0), .ref a_14, .ref a_15, .ref a_16, .ref a_17, .ref a_18, .ref a_19, .ref a_20, .ref a_21, .null, .null, .int (nI 0), .null, .null, .null], bA g a_1 600 (fun _ => 0), bA g a_2 1400 (fun _ => 0), bA g a_3 32 (fun _ => 0), iA g a_4 64 (fun _ => 0), iA g a_5 8 (fun _ => 0), iA g a_6 8 (tk s_first 8), iA g a_7 64 (tk s_cube 64), lA g a_8 25 (fun _ => 0), lA g a_9 25 (fun _ => 0), lA g a_10 5 (fun _ => 0), iA g a_11 25 (fun _ => 0), bA g a_12 32 (fun _ => 0), bA g a_13 48 (fun _ => 0), iA g a_14 40 (fun _ => 0), bA g a_15 560 (fun _ => 0), bA g a_16 112 (fun _ => 0), bA g a_17 16 (fun _ => 0), bA g a_18 496 (fun _ => 0), bA g a_19 32 (fun _ => 0), bA g a_20 16 (fun _ => 0), bA g a_21 16 (fun _ => 0)] rfl dX11_init_592 ?_
  refine j_aload_n hX 0 dX11_init_595 rfl ?_
  refine j_pc 596 rfl ?_
  refine j_bipush hX (8) dX11_init_596 (by decide) ?_
  refine j_st [.int (nI 8), .ref h] rfl ?_
  refine j_newa hX (ty := .int) (n := 8) (a0 := (8, .inl (fun _ => 0))) 1 rfl (fun _ _ => rfl) (List.mem_of_getElem? (i := 8) rfl) rfl (fun _ => rfl) (by decide) (by decide) (Nat.le_of_ble_eq_true rfl) (Nat.le_of_ble_eq_true rfl) dX11_init_598 (fun a_22 => ?_)
  refine j_w [oB h 11 [.ref a_1, .int (nI 0), .ref a_2, .int (nI 0), .ref a_3, .ref a_4, .ref a_5, .ref a_6, .ref a_7, .ref a_8, .ref a_9, .ref a_10, .ref a_11, .ref a_12, .int (nI 0), .int (nI 0), .int (nI 0), .int (nI 0), .int (nI 0), .int (nI 0), .int (nI 0), .int (nI 0), .int (nI 0), .ref a_13, .int (nI 0), .int (nI 0), .int (nI 0), .int (nI 0), .int (nI 0), .ref a_14, .ref a_15, .ref a_16, .ref a_17, .ref a_18, .ref a_19, .ref a_20, .ref a_21, .null, .null, .int (nI 0), .null, .null, .null], bA g a_1 600 (fun _ => 0), bA g a_2 1400 (fun _ => 0), bA g a_3 32 (fun _ => 0), iA g a_4 64 (fun _ => 0), iA g a_5 8 (fun _ => 0), iA g a_6 8 (tk s_first 8), iA g a_7 64 (tk s_cube 64), lA g a_8 25 (fun _ => 0), lA g a_9 25 (fun _ => 0), lA g a_10 5 (fun _ => 0), iA g a_11 25 (fun _ => 0), bA g a_12 32 (fun _ => 0), bA g a_13 48 (fun _ => 0), iA g a_14 40 (fun _ => 0), bA g a_15 560 (fun _ => 0), bA g a_16 112 (fun _ => 0), bA g a_17 16 (fun _ => 0), bA g a_18 496 (fun _ => 0), bA g a_19 32 (fun _ => 0), bA g a_20 16 (fun _ => 0), bA g a_21 16 (fun _ => 0), iA g a_22 8 (fun _ => 0)] rfl ?_
  refine j_putF hX hin (v := .ref a_22) in11 tyX11 tyX11_ok nmX11 11 0 37 rfl rfl (by decide) (List.mem_of_getElem? (i := 100) rfl) rfl rfl rfl rfl rfl rfl (Nat.le_of_ble_eq_true rfl) [oB h 11 [.ref a_1, .int (nI 0), .ref a_2, .int (nI 0), .ref a_3, .ref a_4, .ref a_5, .ref a_6, .ref a_7, .ref a_8, .ref a_9, .ref a_10, .ref a_11, .ref a_12, .int (nI 0), .int (nI 0), .int (nI 0), .int (nI 0), .int (nI 0), .int (nI 0), .int (nI 0), .int (nI 0), .int (nI 0), .ref a_13, .int (nI 0), .int (nI 0), .int (nI 0), .int (nI 0), .int (nI 0), .ref a_14, .ref a_15, .ref a_16, .ref a_17, .ref a_18, .ref a_19, .ref a_20, .ref a_21, .ref a_22, .null, .int (nI 0), .null, .null, .null], bA g a_1 600 (fun _ => 0), bA g a_2 1400 (fun _ => 0), bA g a_3 32 (fun _ => 0), iA g a_4 64 (fun _ => 0), iA g a_5 8 (fun _ => 0), iA g a_6 8 (tk s_first 8), iA g a_7 64 (tk s_cube 64), lA g a_8 25 (fun _ => 0), lA g a_9 25 (fun _ => 0), lA g a_10 5 (fun _ => 0), iA g a_11 25 (fun _ => 0), bA g a_12 32 (fun _ => 0), bA g a_13 48 (fun _ => 0), iA g a_14 40 (fun _ => 0), bA g a_15 560 (fun _ => 0), bA g a_16 112 (fun _ => 0), bA g a_17 16 (fun _ => 0), bA g a_18 496 (fun _ => 0), bA g a_19 32 (fun _ => 0), bA g a_20 16 (fun _ => 0), bA g a_21 16 (fun _ => 0), iA g a_22 8 (fun _ => 0)] rfl dX11_init_600 ?_
  refine j_aload_n hX 0 dX11_init_603 rfl ?_
  refine j_sipush hX (2000) dX11_init_604 (by decide) ?_
  refine j_st [.int (nI 2000), .ref h] rfl ?_
  refine j_newa hX (ty := .byte) (n := 2000) (a0 := (2000, .inl (fun _ => 0))) 0 rfl (fun _ _ => rfl) (List.mem_of_getElem? (i := 4) rfl) rfl (fun _ => rfl) (by decide) (by decide) (Nat.le_of_ble_eq_true rfl) (Nat.le_of_ble_eq_true rfl) dX11_init_607 (fun a_23 => ?_)
  refine j_w [oB h 11 [.ref a_1, .int (nI 0), .ref a_2, .int (nI 0), .ref a_3, .ref a_4, .ref a_5, .ref a_6, .ref a_7, .ref a_8, .ref a_9, .ref a_10, .ref a_11, .ref a_12, .int (nI 0), .int (nI 0), .int (nI 0), .int (nI 0), .int (nI 0), .int (nI 0), .int (nI 0), .int (nI 0), .int (nI 0), .ref a_13, .int (nI 0), .int (nI 0), .int (nI 0), .int (nI 0), .int (nI 0), .ref a_14, .ref a_15, .ref a_16, .ref a_17, .ref a_18, .ref a_19, .ref a_20, .ref a_21, .ref a_22, .null, .int (nI 0), .null, .null, .null], bA g a_1 600 (fun _ => 0), bA g a_2 1400 (fun _ => 0), bA g a_3 32 (fun _ => 0), iA g a_4 64 (fun _ => 0), iA g a_5 8 (fun _ => 0), iA g a_6 8 (tk s_first 8), iA g a_7 64 (tk s_cube 64), lA g a_8 25 (fun _ => 0), lA g a_9 25 (fun _ => 0), lA g a_10 5 (fun _ => 0), iA g a_11 25 (fun _ => 0), bA g a_12 32 (fun _ => 0), bA g a_13 48 (fun _ => 0), iA g a_14 40 (fun _ => 0), bA g a_15 560 (fun _ => 0), bA g a_16 112 (fun _ => 0), bA g a_17 16 (fun _ => 0), bA g a_18 496 (fun _ => 0), bA g a_19 32 (fun _ => 0), bA g a_20 16 (fun _ => 0), bA g a_21 16 (fun _ => 0), iA g a_22 8 (fun _ => 0), bA g a_23 2000 (fun _ => 0)] rfl ?_
  refine j_putF hX hin (v := .ref a_23) in11 tyX11 tyX11_ok nmX11 11 0 38 rfl rfl (by decide) (List.mem_of_getElem? (i := 101) rfl) rfl rfl rfl rfl rfl rfl (Nat.le_of_ble_eq_true rfl) [oB h 11 [.ref a_1, .int (nI 0), .ref a_2, .int (nI 0), .ref a_3, .ref a_4, .ref a_5, .ref a_6, .ref a_7, .ref a_8, .ref a_9, .ref a_10, .ref a_11, .ref a_12, .int (nI 0), .int (nI 0), .int (nI 0), .int (nI 0), .int (nI 0), .int (nI 0), .int (nI 0), .int (nI 0), .int (nI 0), .ref a_13, .int (nI 0), .int (nI 0), .int (nI 0), .int (nI 0), .int (nI 0), .ref a_14, .ref a_15, .ref a_16, .ref a_17, .ref a_18, .ref a_19, .ref a_20, .ref a_21, .ref a_22, .ref a_23, .int (nI 0), .null, .null, .null], bA g a_1 600 (fun _ => 0), bA g a_2 1400 (fun _ => 0), bA g a_3 32 (fun _ => 0), iA g a_4 64 (fun _ => 0), iA g a_5 8 (fun _ => 0), iA g a_6 8 (tk s_first 8), iA g a_7 64 (tk s_cube 64), lA g a_8 25 (fun _ => 0), lA g a_9 25 (fun _ => 0), lA g a_10 5 (fun _ => 0), iA g a_11 25 (fun _ => 0), bA g a_12 32 (fun _ => 0), bA g a_13 48 (fun _ => 0), iA g a_14 40 (fun _ => 0), bA g a_15 560 (fun _ => 0), bA g a_16 112 (fun _ => 0), bA g a_17 16 (fun _ => 0), bA g a_18 496 (fun _ => 0), bA g a_19 32 (fun _ => 0), bA g a_20 16 (fun _ => 0), bA g a_21 16 (fun _ => 0), iA g a_22 8 (fun _ => 0), bA g a_23 2000 (fun _ => 0)] rfl dX11_init_609 ?_
  refine j_aload_n hX 0 dX11_init_612 rfl ?_
  refine j_pc 613 rfl ?_
  refine j_bipush hX (96) dX11_init_613 (by decide) ?_
  refine j_st [.int (nI 96), .ref h] rfl ?_
  refine j_newa hX (ty := .byte) (n := 96) (a0 := (96, .inl (fun _ => 0))) 0 rfl (fun _ _ => rfl) (List.mem_of_getElem? (i := 4) rfl) rfl (fun _ => rfl) (by decide) (by decide) (Nat.le_of_ble_eq_true rfl) (Nat.le_of_ble_eq_true rfl) dX11_init_615 (fun a_24 => ?_)
  refine j_w [oB h 11 [.ref a_1, .int (nI 0), .ref a_2, .int (nI 0), .ref a_3, .ref a_4, .ref a_5, .ref a_6, .ref a_7, .ref a_8, .ref a_9, .ref a_10, .ref a_11, .ref a_12, .int (nI 0), .int (nI 0), .int (nI 0), .int (nI 0), .int (nI 0), .int (nI 0), .int (nI 0), .int (nI 0), .int (nI 0), .ref a_13, .int (nI 0), .int (nI 0), .int (nI 0), .int (nI 0), .int (nI 0), .ref a_14, .ref a_15, .ref a_16, .ref a_17, .ref a_18, .ref a_19, .ref a_20, .ref a_21, .ref a_22, .ref a_23, .int (nI 0), .null, .null, .null], bA g a_1 600 (fun _ => 0), bA g a_2 1400 (fun _ => 0), bA g a_3 32 (fun _ => 0), iA g a_4 64 (fun _ => 0), iA g a_5 8 (fun _ => 0), iA g a_6 8 (tk s_first 8), iA g a_7 64 (tk s_cube 64), lA g a_8 25 (fun _ => 0), lA g a_9 25 (fun _ => 0), lA g a_10 5 (fun _ => 0), iA g a_11 25 (fun _ => 0), bA g a_12 32 (fun _ => 0), bA g a_13 48 (fun _ => 0), iA g a_14 40 (fun _ => 0), bA g a_15 560 (fun _ => 0), bA g a_16 112 (fun _ => 0), bA g a_17 16 (fun _ => 0), bA g a_18 496 (fun _ => 0), bA g a_19 32 (fun _ => 0), bA g a_20 16 (fun _ => 0), bA g a_21 16 (fun _ => 0), iA g a_22 8 (fun _ => 0), bA g a_23 2000 (fun _ => 0), bA g a_24 96 (fun _ => 0)] rfl ?_
  refine j_putF hX hin (v := .ref a_24) in11 tyX11 tyX11_ok nmX11 11 0 40 rfl rfl (by decide) (List.mem_of_getElem? (i := 102) rfl) rfl rfl rfl rfl rfl rfl (Nat.le_of_ble_eq_true rfl) [oB h 11 [.ref a_1, .int (nI 0), .ref a_2, .int (nI 0), .ref a_3, .ref a_4, .ref a_5, .ref a_6, .ref a_7, .ref a_8, .ref a_9, .ref a_10, .ref a_11, .ref a_12, .int (nI 0), .int (nI 0), .int (nI 0), .int (nI 0), .int (nI 0), .int (nI 0), .int (nI 0), .int (nI 0), .int (nI 0), .ref a_13, .int (nI 0), .int (nI 0), .int (nI 0), .int (nI 0), .int (nI 0), .ref a_14, .ref a_15, .ref a_16, .ref a_17, .ref a_18, .ref a_19, .ref a_20, .ref a_21, .ref a_22, .ref a_23, .int (nI 0), .ref a_24, .null, .null], bA g a_1 600 (fun _ => 0), bA g a_2 1400 (fun _ => 0), bA g a_3 32 (fun _ => 0), iA g a_4 64 (fun _ => 0), iA g a_5 8 (fun _ => 0), iA g a_6 8 (tk s_first 8), iA g a_7 64 (tk s_cube 64), lA g a_8 25 (fun _ => 0), lA g a_9 25 (fun _ => 0), lA g a_10 5 (fun _ => 0), iA g a_11 25 (fun _ => 0), bA g a_12 32 (fun _ => 0), bA g a_13 48 (fun _ => 0), iA g a_14 40 (fun _ => 0), bA g a_15 560 (fun _ => 0), bA g a_16 112 (fun _ => 0), bA g a_17 16 (fun _ => 0), bA g a_18 496 (fun _ => 0), bA g a_19 32 (fun _ => 0), bA g a_20 16 (fun _ => 0), bA g a_21 16 (fun _ => 0), iA g a_22 8 (fun _ => 0), bA g a_23 2000 (fun _ => 0), bA g a_24 96 (fun _ => 0)] rfl dX11_init_617 ?_
  refine j_aload_n hX 0 dX11_init_620 rfl ?_
  refine j_bipush hX (16) dX11_init_621 (by decide) ?_
  refine j_st [.int (nI 16), .ref h] rfl ?_
  refine j_newa hX (ty := .byte) (n := 16) (a0 := (16, .inl (fun _ => 0))) 0 rfl (fun _ _ => rfl) (List.mem_of_getElem? (i := 4) rfl) rfl (fun _ => rfl) (by decide) (by decide) (Nat.le_of_ble_eq_true rfl) (Nat.le_of_ble_eq_true rfl) dX11_init_623 (fun a_25 => ?_)
  refine j_w [oB h 11 [.ref a_1, .int (nI 0), .ref a_2, .int (nI 0), .ref a_3, .ref a_4, .ref a_5, .ref a_6, .ref a_7, .ref a_8, .ref a_9, .ref a_10, .ref a_11, .ref a_12, .int (nI 0), .int (nI 0), .int (nI 0), .int (nI 0), .int (nI 0), .int (nI 0), .int (nI 0), .int (nI 0), .int (nI 0), .ref a_13, .int (nI 0), .int (nI 0), .int (nI 0), .int (nI 0), .int (nI 0), .ref a_14, .ref a_15, .ref a_16, .ref a_17, .ref a_18, .ref a_19, .ref a_20, .ref a_21, .ref a_22, .ref a_23, .int (nI 0), .ref a_24, .null, .null], bA g a_1 600 (fun _ => 0), bA g a_2 1400 (fun _ => 0), bA g a_3 32 (fun _ => 0), iA g a_4 64 (fun _ => 0), iA g a_5 8 (fun _ => 0), iA g a_6 8 (tk s_first 8), iA g a_7 64 (tk s_cube 64), lA g a_8 25 (fun _ => 0), lA g a_9 25 (fun _ => 0), lA g a_10 5 (fun _ => 0), iA g a_11 25 (fun _ => 0), bA g a_12 32 (fun _ => 0), bA g a_13 48 (fun _ => 0), iA g a_14 40 (fun _ => 0), bA g a_15 560 (fun _ => 0), bA g a_16 112 (fun _ => 0), bA g a_17 16 (fun _ => 0), bA g a_18 496 (fun _ => 0), bA g a_19 32 (fun _ => 0), bA g a_20 16 (fun _ => 0), bA g a_21 16 (fun _ => 0), iA g a_22 8 (fun _ => 0), bA g a_23 2000 (fun _ => 0), bA g a_24 96 (fun _ => 0), bA g a_25 16 (fun _ => 0)] rfl ?_
  refine j_putF hX hin (v := .ref a_25) in11 tyX11 tyX11_ok nmX11 11 0 41 rfl rfl (by decide) (List.mem_of_getElem? (i := 103) rfl) rfl rfl rfl rfl rfl rfl (Nat.le_of_ble_eq_true rfl) [oB h 11 [.ref a_1, .int (nI 0), .ref a_2, .int (nI 0), .ref a_3, .ref a_4, .ref a_5, .ref a_6, .ref a_7, .ref a_8, .ref a_9, .ref a_10, .ref a_11, .ref a_12, .int (nI 0), .int (nI 0), .int (nI 0), .int (nI 0), .int (nI 0), .int (nI 0), .int (nI 0), .int (nI 0), .int (nI 0), .ref a_13, .int (nI 0), .int (nI 0), .int (nI 0), .int (nI 0), .int (nI 0), .ref a_14, .ref a_15, .ref a_16, .ref a_17, .ref a_18, .ref a_19, .ref a_20, .ref a_21, .ref a_22, .ref a_23, .int (nI 0), .ref a_24, .ref a_25, .null], bA g a_1 600 (fun _ => 0), bA g a_2 1400 (fun _ => 0), bA g a_3 32 (fun _ => 0), iA g a_4 64 (fun _ => 0), iA g a_5 8 (fun _ => 0), iA g a_6 8 (tk s_first 8), iA g a_7 64 (tk s_cube 64), lA g a_8 25 (fun _ => 0), lA g a_9 25 (fun _ => 0), lA g a_10 5 (fun _ => 0), iA g a_11 25 (fun _ => 0), bA g a_12 32 (fun _ => 0), bA g a_13 48 (fun _ => 0), iA g a_14 40 (fun _ => 0), bA g a_15 560 (fun _ => 0), bA g a_16 112 (fun _ => 0), bA g a_17 16 (fun _ => 0), bA g a_18 496 (fun _ => 0), bA g a_19 32 (fun _ => 0), bA g a_20 16 (fun _ => 0), bA g a_21 16 (fun _ => 0), iA g a_22 8 (fun _ => 0), bA g a_23 2000 (fun _ => 0), bA g a_24 96 (fun _ => 0), bA g a_25 16 (fun _ => 0)] rfl dX11_init_625 ?_
  refine j_aload_n hX 0 dX11_init_628 rfl ?_
  refine j_pc 629 rfl ?_
  refine j_bipush hX (16) dX11_init_629 (by decide) ?_
  refine j_st [.int (nI 16), .ref h] rfl ?_
  refine j_newa hX (ty := .byte) (n := 16) (a0 := (16, .inl (fun _ => 0))) 0 rfl (fun _ _ => rfl) (List.mem_of_getElem? (i := 4) rfl) rfl (fun _ => rfl) (by decide) (by decide) (Nat.le_of_ble_eq_true rfl) (Nat.le_of_ble_eq_true rfl) dX11_init_631 (fun a_26 => ?_)
  refine j_w [oB h 11 [.ref a_1, .int (nI 0), .ref a_2, .int (nI 0), .ref a_3, .ref a_4, .ref a_5, .ref a_6, .ref a_7, .ref a_8, .ref a_9, .ref a_10, .ref a_11, .ref a_12, .int (nI 0), .int (nI 0), .int (nI 0), .int (nI 0), .int (nI 0), .int (nI 0), .int (nI 0), .int (nI 0), .int (nI 0), .ref a_13, .int (nI 0), .int (nI 0), .int (nI 0), .int (nI 0), .int (nI 0), .ref a_14, .ref a_15, .ref a_16, .ref a_17, .ref a_18, .ref a_19, .ref a_20, .ref a_21, .ref a_22, .ref a_23, .int (nI 0), .ref a_24, .ref a_25, .null], bA g a_1 600 (fun _ => 0), bA g a_2 1400 (fun _ => 0), bA g a_3 32 (fun _ => 0), iA g a_4 64 (fun _ => 0), iA g a_5 8 (fun _ => 0), iA g a_6 8 (tk s_first 8), iA g a_7 64 (tk s_cube 64), lA g a_8 25 (fun _ => 0), lA g a_9 25 (fun _ => 0), lA g a_10 5 (fun _ => 0), iA g a_11 25 (fun _ => 0), bA g a_12 32 (fun _ => 0), bA g a_13 48 (fun _ => 0), iA g a_14 40 (fun _ => 0), bA g a_15 560 (fun _ => 0), bA g a_16 112 (fun _ => 0), bA g a_17 16 (fun _ => 0), bA g a_18 496 (fun _ => 0), bA g a_19 32 (fun _ => 0), bA g a_20 16 (fun _ => 0), bA g a_21 16 (fun _ => 0), iA g a_22 8 (fun _ => 0), bA g a_23 2000 (fun _ => 0), bA g a_24 96 (fun _ => 0), bA g a_25 16 (fun _ => 0), bA g a_26 16 (fun _ => 0)] rfl ?_
  refine j_putF hX hin (v := .ref a_26) in11 tyX11 tyX11_ok nmX11 11 0 42 rfl rfl (by decide) (List.mem_of_getElem? (i := 104) rfl) rfl rfl rfl rfl rfl rfl (Nat.le_of_ble_eq_true rfl) [oB h 11 [.ref a_1, .int (nI 0), .ref a_2, .int (nI 0), .ref a_3, .ref a_4, .ref a_5, .ref a_6, .ref a_7, .ref a_8, .ref a_9, .ref a_10, .ref a_11, .ref a_12, .int (nI 0), .int (nI 0), .int (nI 0), .int (nI 0), .int (nI 0), .int (nI 0), .int (nI 0), .int (nI 0), .int (nI 0), .ref a_13, .int (nI 0), .int (nI 0), .int (nI 0), .int (nI 0), .int (nI 0), .ref a_14, .ref a_15, .ref a_16, .ref a_17, .ref a_18, .ref a_19, .ref a_20, .ref a_21, .ref a_22, .ref a_23, .int (nI 0), .ref a_24, .ref a_25, .ref a_26], bA g a_1 600 (fun _ => 0), bA g a_2 1400 (fun _ => 0), bA g a_3 32 (fun _ => 0), iA g a_4 64 (fun _ => 0), iA g a_5 8 (fun _ => 0), iA g a_6 8 (tk s_first 8), iA g a_7 64 (tk s_cube 64), lA g a_8 25 (fun _ => 0), lA g a_9 25 (fun _ => 0), lA g a_10 5 (fun _ => 0), iA g a_11 25 (fun _ => 0), bA g a_12 32 (fun _ => 0), bA g a_13 48 (fun _ => 0), iA g a_14 40 (fun _ => 0), bA g a_15 560 (fun _ => 0), bA g a_16 112 (fun _ => 0), bA g a_17 16 (fun _ => 0), bA g a_18 496 (fun _ => 0), bA g a_19 32 (fun _ => 0), bA g a_20 16 (fun _ => 0), bA g a_21 16 (fun _ => 0), iA g a_22 8 (fun _ => 0), bA g a_23 2000 (fun _ => 0), bA g a_24 96 (fun _ => 0), bA g a_25 16 (fun _ => 0), bA g a_26 16 (fun _ => 0)] rfl dX11_init_633 ?_
  obtain ⟨b, hb⟩ : ∃ b : Nat → Nat, b = bL [a_1, 0, a_2, 0, a_3, a_4, a_5, a_6, a_7, a_8, a_9, a_10, a_11, a_12, 0, 0, 0, 0, 0, 0, 0, 0, 0, a_13, 0, 0, 0, 0, 0, a_14, a_15, a_16, a_17, a_18, a_19, a_20, a_21, a_22, a_23, 0, a_24, a_25, a_26] := ⟨_, rfl⟩
  obtain ⟨v, hv⟩ : ∃ v : Nat → Int32, v = fun _ => 0 := ⟨_, rfl⟩
  refine j_w [oB h 11 (mO b v), bA g (b 0) 600 (fun _ => 0), bA g (b 2) 1400 (fun _ => 0), bA g (b 4) 32 (fun _ => 0), iA g (b 5) 64 (fun _ => 0), iA g (b 6) 8 (fun _ => 0), iA g (b 7) 8 (tk s_first 8), iA g (b 8) 64 (tk s_cube 64), lA g (b 9) 25 (fun _ => 0), lA g (b 10) 25 (fun _ => 0), lA g (b 11) 5 (fun _ => 0), iA g (b 12) 25 (fun _ => 0), bA g (b 13) 32 (fun _ => 0), bA g (b 23) 48 (fun _ => 0), iA g (b 29) 40 (fun _ => 0), bA g (b 30) 560 (fun _ => 0), bA g (b 31) 112 (fun _ => 0), bA g (b 32) 16 (fun _ => 0), bA g (b 33) 496 (fun _ => 0), bA g (b 34) 32 (fun _ => 0), bA g (b 35) 16 (fun _ => 0), bA g (b 36) 16 (fun _ => 0), iA g (b 37) 8 (fun _ => 0), bA g (b 38) 2000 (fun _ => 0), bA g (b 40) 96 (fun _ => 0), bA g (b 41) 16 (fun _ => 0), bA g (b 42) 16 (fun _ => 0)] (by rw [hb, hv]; rfl) ?_
  refine j_iconst hX (0) dX11_init_636 (by decide) ?_
  refine j_st [.int (nI 0)] rfl ?_
  refine j_istore_n hX 1 [(1, .int (nI 0)), (0, .ref h)] dX11_init_637 rfl (by decide) rfl ?_
  have lp_27 : ∀ (n_28 : Nat) (i : Nat) (T1 : Nat → Int32), (25 - i < n_28) → (i ≤ 25) → (T1 = fun _ => 0) → J p l e ({ frames := 1, cells := 26, slots := 5760, locals := 20 } : Room) s m ([.ref h] : List Value).toArray below meth c g A 5 Q 26 5760 [oB h 11 (mO b v), bA g (b 0) 600 (fun _ => 0), bA g (b 2) 1400 (fun _ => 0), bA g (b 4) 32 (fun _ => 0), iA g (b 5) 64 (fun _ => 0), iA g (b 6) 8 (fun _ => 0), iA g (b 7) 8 (tk s_first 8), iA g (b 8) 64 (tk s_cube 64), lA g (b 9) 25 (fun _ => 0), lA g (b 10) 25 (fun _ => 0), lA g (b 11) 5 (fun _ => 0), iA g (b 12) 25 T1, bA g (b 13) 32 (fun _ => 0), bA g (b 23) 48 (fun _ => 0), iA g (b 29) 40 (fun _ => 0), bA g (b 30) 560 (fun _ => 0), bA g (b 31) 112 (fun _ => 0), bA g (b 32) 16 (fun _ => 0), bA g (b 33) 496 (fun _ => 0), bA g (b 34) 32 (fun _ => 0), bA g (b 35) 16 (fun _ => 0), bA g (b 36) 16 (fun _ => 0), iA g (b 37) 8 (fun _ => 0), bA g (b 38) 2000 (fun _ => 0), bA g (b 40) 96 (fun _ => 0), bA g (b 41) 16 (fun _ => 0), bA g (b 42) 16 (fun _ => 0)] [(0, .ref h), (1, .int (nI i))] 638 [] := by
    intro n_28
    induction n_28 with
    | zero => intro i T1 hm; exact absurd hm (Nat.not_lt_zero _)
    | succ n_28 ih_29 =>
      intro i T1 hm hi hT
      refine j_iload_n hX 1 dX11_init_638 rfl ?_
      refine j_bipush hX (25) dX11_init_639 (by decide) ?_
      refine j_icmp_geN hX i 25 657 dX11_init_641 (by decide) (by omega) (by omega) (fun b_641 => ?_) (fun b_641 => ?_)
      · skip
        refine j_pc 657 rfl ?_
        refine j_iconst hX (1) dX11_init_657 (by decide) ?_
        refine j_st [.int (nI 1)] rfl ?_
        refine j_istore_n hX 1 [(1, .int (nI 1)), (0, .ref h)] dX11_init_658 rfl (by decide) rfl ?_
        refine j_iconst hX (0) dX11_init_659 (by decide) ?_
        refine j_st [.int (nI 0)] rfl ?_
        refine j_istore_n hX 2 [(2, .int (nI 0)), (1, .int (nI 1)), (0, .ref h)] dX11_init_660 rfl (by decide) rfl ?_
        refine j_iconst hX (0) dX11_init_661 (by decide) ?_
        refine j_st [.int (nI 0)] rfl ?_
        refine j_istore_n hX 3 [(3, .int (nI 0)), (2, .int (nI 0)), (1, .int (nI 1)), (0, .ref h)] dX11_init_662 rfl (by decide) rfl ?_
        have lp_30 : ∀ (n_31 : Nat) (t : Nat) (x : Nat) (y : Nat) (T1 : Nat → Int32), (24 - t < n_31) → (t ≤ 24) → (x = (xyT t).1) → (y = (xyT t).2) → (T1 = tT t) → J p l e ({ frames := 1, cells := 26, slots := 5760, locals := 20 } : Room) s m ([.ref h] : List Value).toArray below meth c g A 5 Q 26 5760 [oB h 11 (mO b v), bA g (b 0) 600 (fun _ => 0), bA g (b 2) 1400 (fun _ => 0), bA g (b 4) 32 (fun _ => 0), iA g (b 5) 64 (fun _ => 0), iA g (b 6) 8 (fun _ => 0), iA g (b 7) 8 (tk s_first 8), iA g (b 8) 64 (tk s_cube 64), lA g (b 9) 25 (fun _ => 0), lA g (b 10) 25 (fun _ => 0), lA g (b 11) 5 (fun _ => 0), iA g (b 12) 25 T1, bA g (b 13) 32 (fun _ => 0), bA g (b 23) 48 (fun _ => 0), iA g (b 29) 40 (fun _ => 0), bA g (b 30) 560 (fun _ => 0), bA g (b 31) 112 (fun _ => 0), bA g (b 32) 16 (fun _ => 0), bA g (b 33) 496 (fun _ => 0), bA g (b 34) 32 (fun _ => 0), bA g (b 35) 16 (fun _ => 0), bA g (b 36) 16 (fun _ => 0), iA g (b 37) 8 (fun _ => 0), bA g (b 38) 2000 (fun _ => 0), bA g (b 40) 96 (fun _ => 0), bA g (b 41) 16 (fun _ => 0), bA g (b 42) 16 (fun _ => 0)] [(0, .ref h), (1, .int (nI x)), (2, .int (nI y)), (3, .int (nI t))] 663 [] := by
          intro n_31
          induction n_31 with
          | zero => intro t x y T1 hm; exact absurd hm (Nat.not_lt_zero _)
          | succ n_31 ih_32 =>
            intro t x y T1 hm ht hx hy hT
            refine j_iload_n hX 3 dX11_init_663 rfl ?_
            refine j_bipush hX (24) dX11_init_664 (by decide) ?_
            refine j_pc 666 rfl ?_
            refine j_icmp_geN hX t 24 713 dX11_init_666 (by decide) (by omega) (by omega) (fun b_666 => ?_) (fun b_666 => ?_)
            · skip
              refine j_aload_n hX 0 dX11_init_713 rfl ?_
              refine j_iconst hX (0) dX11_init_714 (by decide) ?_
              refine j_st [.int (nI 0), .ref h] rfl ?_
              refine j_put hX (v := .int (nI 0)) (ty := .int) in11 tyX11 tyX11_ok nmX11 11 0 15 rfl rfl (by decide) (List.mem_of_getElem? (i := 105) rfl) rfl rfl rfl rfl rfl (Nat.le_of_ble_eq_true rfl) [oB h 11 (mO b (upd v 15 (nI 0))), bA g (b 0) 600 (fun _ => 0), bA g (b 2) 1400 (fun _ => 0), bA g (b 4) 32 (fun _ => 0), iA g (b 5) 64 (fun _ => 0), iA g (b 6) 8 (fun _ => 0), iA g (b 7) 8 (tk s_first 8), iA g (b 8) 64 (tk s_cube 64), lA g (b 9) 25 (fun _ => 0), lA g (b 10) 25 (fun _ => 0), lA g (b 11) 5 (fun _ => 0), iA g (b 12) 25 T1, bA g (b 13) 32 (fun _ => 0), bA g (b 23) 48 (fun _ => 0), iA g (b 29) 40 (fun _ => 0), bA g (b 30) 560 (fun _ => 0), bA g (b 31) 112 (fun _ => 0), bA g (b 32) 16 (fun _ => 0), bA g (b 33) 496 (fun _ => 0), bA g (b 34) 32 (fun _ => 0), bA g (b 35) 16 (fun _ => 0), bA g (b 36) 16 (fun _ => 0), iA g (b 37) 8 (fun _ => 0), bA g (b 38) 2000 (fun _ => 0), bA g (b 40) 96 (fun _ => 0), bA g (b 41) 16 (fun _ => 0), bA g (b 42) 16 (fun _ => 0)] rfl dX11_init_715 ?_
              refine j_aload_n hX 0 dX11_init_718 rfl ?_
              refine j_iconst hX (4) dX11_init_719 (by decide) ?_
              refine j_st [.int (nI 4), .ref h] rfl ?_
              refine j_put hX (v := .int (nI 4)) (ty := .int) in11 tyX11 tyX11_ok nmX11 11 0 16 rfl rfl (by decide) (List.mem_of_getElem? (i := 106) rfl) rfl rfl rfl rfl rfl (Nat.le_of_ble_eq_true rfl) [oB h 11 (mO b (upd (upd v 15 (nI 0)) 16 (nI 4))), bA g (b 0) 600 (fun _ => 0), bA g (b 2) 1400 (fun _ => 0), bA g (b 4) 32 (fun _ => 0), iA g (b 5) 64 (fun _ => 0), iA g (b 6) 8 (fun _ => 0), iA g (b 7) 8 (tk s_first 8), iA g (b 8) 64 (tk s_cube 64), lA g (b 9) 25 (fun _ => 0), lA g (b 10) 25 (fun _ => 0), lA g (b 11) 5 (fun _ => 0), iA g (b 12) 25 T1, bA g (b 13) 32 (fun _ => 0), bA g (b 23) 48 (fun _ => 0), iA g (b 29) 40 (fun _ => 0), bA g (b 30) 560 (fun _ => 0), bA g (b 31) 112 (fun _ => 0), bA g (b 32) 16 (fun _ => 0), bA g (b 33) 496 (fun _ => 0), bA g (b 34) 32 (fun _ => 0), bA g (b 35) 16 (fun _ => 0), bA g (b 36) 16 (fun _ => 0), iA g (b 37) 8 (fun _ => 0), bA g (b 38) 2000 (fun _ => 0), bA g (b 40) 96 (fun _ => 0), bA g (b 41) 16 (fun _ => 0), bA g (b 42) 16 (fun _ => 0)] rfl dX11_init_720 ?_
              refine j_aload_n hX 0 dX11_init_723 rfl ?_
              refine j_pc 724 rfl ?_
              refine j_iconst hX (1) dX11_init_724 (by decide) ?_
              refine j_st [.int (nI 1), .ref h] rfl ?_
              refine j_put hX (v := .int (nI 1)) (ty := .int) in11 tyX11 tyX11_ok nmX11 11 0 17 rfl rfl (by decide) (List.mem_of_getElem? (i := 107) rfl) rfl rfl rfl rfl rfl (Nat.le_of_ble_eq_true rfl) [oB h 11 (mO b (upd (upd (upd v 15 (nI 0)) 16 (nI 4)) 17 (nI 1))), bA g (b 0) 600 (fun _ => 0), bA g (b 2) 1400 (fun _ => 0), bA g (b 4) 32 (fun _ => 0), iA g (b 5) 64 (fun _ => 0), iA g (b 6) 8 (fun _ => 0), iA g (b 7) 8 (tk s_first 8), iA g (b 8) 64 (tk s_cube 64), lA g (b 9) 25 (fun _ => 0), lA g (b 10) 25 (fun _ => 0), lA g (b 11) 5 (fun _ => 0), iA g (b 12) 25 T1, bA g (b 13) 32 (fun _ => 0), bA g (b 23) 48 (fun _ => 0), iA g (b 29) 40 (fun _ => 0), bA g (b 30) 560 (fun _ => 0), bA g (b 31) 112 (fun _ => 0), bA g (b 32) 16 (fun _ => 0), bA g (b 33) 496 (fun _ => 0), bA g (b 34) 32 (fun _ => 0), bA g (b 35) 16 (fun _ => 0), bA g (b 36) 16 (fun _ => 0), iA g (b 37) 8 (fun _ => 0), bA g (b 38) 2000 (fun _ => 0), bA g (b 40) 96 (fun _ => 0), bA g (b 41) 16 (fun _ => 0), bA g (b 42) 16 (fun _ => 0)] rfl dX11_init_725 ?_
              refine j_aload_n hX 0 dX11_init_728 rfl ?_
              refine j_iconst hX (1) dX11_init_729 (by decide) ?_
              refine j_st [.int (nI 1), .ref h] rfl ?_
              refine j_put hX (v := .int (nI 1)) (ty := .int) in11 tyX11 tyX11_ok nmX11 11 0 18 rfl rfl (by decide) (List.mem_of_getElem? (i := 108) rfl) rfl rfl rfl rfl rfl (Nat.le_of_ble_eq_true rfl) [oB h 11 (mO b (upd (upd (upd (upd v 15 (nI 0)) 16 (nI 4)) 17 (nI 1)) 18 (nI 1))), bA g (b 0) 600 (fun _ => 0), bA g (b 2) 1400 (fun _ => 0), bA g (b 4) 32 (fun _ => 0), iA g (b 5) 64 (fun _ => 0), iA g (b 6) 8 (fun _ => 0), iA g (b 7) 8 (tk s_first 8), iA g (b 8) 64 (tk s_cube 64), lA g (b 9) 25 (fun _ => 0), lA g (b 10) 25 (fun _ => 0), lA g (b 11) 5 (fun _ => 0), iA g (b 12) 25 T1, bA g (b 13) 32 (fun _ => 0), bA g (b 23) 48 (fun _ => 0), iA g (b 29) 40 (fun _ => 0), bA g (b 30) 560 (fun _ => 0), bA g (b 31) 112 (fun _ => 0), bA g (b 32) 16 (fun _ => 0), bA g (b 33) 496 (fun _ => 0), bA g (b 34) 32 (fun _ => 0), bA g (b 35) 16 (fun _ => 0), bA g (b 36) 16 (fun _ => 0), iA g (b 37) 8 (fun _ => 0), bA g (b 38) 2000 (fun _ => 0), bA g (b 40) 96 (fun _ => 0), bA g (b 41) 16 (fun _ => 0), bA g (b 42) 16 (fun _ => 0)] rfl dX11_init_730 ?_
              refine j_aload_n hX 0 dX11_init_733 rfl ?_
              refine j_iconst hX (1) dX11_init_734 (by decide) ?_
              refine j_st [.int (nI 1), .ref h] rfl ?_
              refine j_put hX (v := .int (nI 1)) (ty := .int) in11 tyX11 tyX11_ok nmX11 11 0 19 rfl rfl (by decide) (List.mem_of_getElem? (i := 109) rfl) rfl rfl rfl rfl rfl (Nat.le_of_ble_eq_true rfl) [oB h 11 (mO b (upd (upd (upd (upd (upd v 15 (nI 0)) 16 (nI 4)) 17 (nI 1)) 18 (nI 1)) 19 (nI 1))), bA g (b 0) 600 (fun _ => 0), bA g (b 2) 1400 (fun _ => 0), bA g (b 4) 32 (fun _ => 0), iA g (b 5) 64 (fun _ => 0), iA g (b 6) 8 (fun _ => 0), iA g (b 7) 8 (tk s_first 8), iA g (b 8) 64 (tk s_cube 64), lA g (b 9) 25 (fun _ => 0), lA g (b 10) 25 (fun _ => 0), lA g (b 11) 5 (fun _ => 0), iA g (b 12) 25 T1, bA g (b 13) 32 (fun _ => 0), bA g (b 23) 48 (fun _ => 0), iA g (b 29) 40 (fun _ => 0), bA g (b 30) 560 (fun _ => 0), bA g (b 31) 112 (fun _ => 0), bA g (b 32) 16 (fun _ => 0), bA g (b 33) 496 (fun _ => 0), bA g (b 34) 32 (fun _ => 0), bA g (b 35) 16 (fun _ => 0), bA g (b 36) 16 (fun _ => 0), iA g (b 37) 8 (fun _ => 0), bA g (b 38) 2000 (fun _ => 0), bA g (b 40) 96 (fun _ => 0), bA g (b 41) 16 (fun _ => 0), bA g (b 42) 16 (fun _ => 0)] rfl dX11_init_735 ?_
              refine j_pc 738 rfl ?_
              refine j_aload_n hX 0 dX11_init_738 rfl ?_
              refine j_iconst hX (1) dX11_init_739 (by decide) ?_
              refine j_st [.int (nI 1), .ref h] rfl ?_
              refine j_put hX (v := .int (nI 1)) (ty := .int) in11 tyX11 tyX11_ok nmX11 11 0 20 rfl rfl (by decide) (List.mem_of_getElem? (i := 110) rfl) rfl rfl rfl rfl rfl (Nat.le_of_ble_eq_true rfl) [oB h 11 (mO b (upd (upd (upd (upd (upd (upd v 15 (nI 0)) 16 (nI 4)) 17 (nI 1)) 18 (nI 1)) 19 (nI 1)) 20 (nI 1))), bA g (b 0) 600 (fun _ => 0), bA g (b 2) 1400 (fun _ => 0), bA g (b 4) 32 (fun _ => 0), iA g (b 5) 64 (fun _ => 0), iA g (b 6) 8 (fun _ => 0), iA g (b 7) 8 (tk s_first 8), iA g (b 8) 64 (tk s_cube 64), lA g (b 9) 25 (fun _ => 0), lA g (b 10) 25 (fun _ => 0), lA g (b 11) 5 (fun _ => 0), iA g (b 12) 25 T1, bA g (b 13) 32 (fun _ => 0), bA g (b 23) 48 (fun _ => 0), iA g (b 29) 40 (fun _ => 0), bA g (b 30) 560 (fun _ => 0), bA g (b 31) 112 (fun _ => 0), bA g (b 32) 16 (fun _ => 0), bA g (b 33) 496 (fun _ => 0), bA g (b 34) 32 (fun _ => 0), bA g (b 35) 16 (fun _ => 0), bA g (b 36) 16 (fun _ => 0), iA g (b 37) 8 (fun _ => 0), bA g (b 38) 2000 (fun _ => 0), bA g (b 40) 96 (fun _ => 0), bA g (b 41) 16 (fun _ => 0), bA g (b 42) 16 (fun _ => 0)] rfl dX11_init_740 ?_
              refine j_aload_n hX 0 dX11_init_743 rfl ?_
              refine j_callV2 hX 0 (c_measure l g h b (upd (upd (upd (upd (upd (upd v 15 (nI 0)) 16 (nI 4)) 17 (nI 1)) 18 (nI 1)) 19 (nI 1)) 20 (nI 1)) 4 1 1 1 1 rfl rfl rfl rfl rfl (Or.inl rfl)) gX11_init_X11_measure (by decide +kernel) rfl ⟨rfl, rfl⟩ ⟨Nat.le_of_ble_eq_true rfl, Nat.le_of_ble_eq_true rfl⟩ 11 0 rfl rfl [0] [1, 2, 3, 4, 5, 6, 7, 8, 9, 10, 11, 12, 13, 14, 15, 16, 17, 18, 19, 20, 21, 22, 23, 24, 25, 26] 27 rfl (by decide) (fun jj : Unit => [oB h 11 (mO b (upd (upd (upd (upd (upd (upd (upd (upd v 15 (nI 0)) 16 (nI 4)) 17 (nI 1)) 18 (nI 1)) 19 (nI 1)) 20 (nI 1)) 21 (nI (ln 4))) 22 (nI (sgS 4 1 1 1 1)))), bA g (b 0) 600 (fun _ => 0), bA g (b 2) 1400 (fun _ => 0), bA g (b 4) 32 (fun _ => 0), iA g (b 5) 64 (fun _ => 0), iA g (b 6) 8 (fun _ => 0), iA g (b 7) 8 (tk s_first 8), iA g (b 8) 64 (tk s_cube 64), lA g (b 9) 25 (fun _ => 0), lA g (b 10) 25 (fun _ => 0), lA g (b 11) 5 (fun _ => 0), iA g (b 12) 25 T1, bA g (b 13) 32 (fun _ => 0), bA g (b 23) 48 (fun _ => 0), iA g (b 29) 40 (fun _ => 0), bA g (b 30) 560 (fun _ => 0), bA g (b 31) 112 (fun _ => 0), bA g (b 32) 16 (fun _ => 0), bA g (b 33) 496 (fun _ => 0), bA g (b 34) 32 (fun _ => 0), bA g (b 35) 16 (fun _ => 0), bA g (b 36) 16 (fun _ => 0), iA g (b 37) 8 (fun _ => 0), bA g (b 38) 2000 (fun _ => 0), bA g (b 40) 96 (fun _ => 0), bA g (b 41) 16 (fun _ => 0), bA g (b 42) 16 (fun _ => 0)]) (fun _ => rfl) (by decide) [h, (b 0), (b 2), (b 4), (b 5), (b 6), (b 7), (b 8), (b 9), (b 10), (b 11), (b 12), (b 13), (b 23), (b 29), (b 30), (b 31), (b 32), (b 33), (b 34), (b 35), (b 36), (b 37), (b 38), (b 40), (b 41), (b 42)] rfl (fun _ => rfl) (fun _ => rfl) [bA g (b 0) 600 (fun _ => 0), bA g (b 2) 1400 (fun _ => 0), bA g (b 4) 32 (fun _ => 0), iA g (b 5) 64 (fun _ => 0), iA g (b 6) 8 (fun _ => 0), iA g (b 7) 8 (tk s_first 8), iA g (b 8) 64 (tk s_cube 64), lA g (b 9) 25 (fun _ => 0), lA g (b 10) 25 (fun _ => 0), lA g (b 11) 5 (fun _ => 0), iA g (b 12) 25 T1, bA g (b 13) 32 (fun _ => 0), bA g (b 23) 48 (fun _ => 0), iA g (b 29) 40 (fun _ => 0), bA g (b 30) 560 (fun _ => 0), bA g (b 31) 112 (fun _ => 0), bA g (b 32) 16 (fun _ => 0), bA g (b 33) 496 (fun _ => 0), bA g (b 34) 32 (fun _ => 0), bA g (b 35) 16 (fun _ => 0), bA g (b 36) 16 (fun _ => 0), iA g (b 37) 8 (fun _ => 0), bA g (b 38) 2000 (fun _ => 0), bA g (b 40) 96 (fun _ => 0), bA g (b 41) 16 (fun _ => 0), bA g (b 42) 16 (fun _ => 0)] rfl (fun _ => rfl) rfl [] rfl (Nat.le_of_ble_eq_true rfl) ⟨Nat.le_of_ble_eq_true rfl, Nat.le_of_ble_eq_true rfl⟩ dX11_init_744 ?_
              intro _ hu_33
              refine j_w [oB h 11 (mO b (upd (upd (upd (upd (upd (upd (upd (upd v 15 (nI 0)) 16 (nI 4)) 17 (nI 1)) 18 (nI 1)) 19 (nI 1)) 20 (nI 1)) 21 (nI (ln 4))) 22 (nI (sgS 4 1 1 1 1)))), bA g (b 0) 600 (fun _ => 0), bA g (b 2) 1400 (fun _ => 0), bA g (b 4) 32 (fun _ => 0), iA g (b 5) 64 (fun _ => 0), iA g (b 6) 8 (fun _ => 0), iA g (b 7) 8 (tk s_first 8), iA g (b 8) 64 (tk s_cube 64), lA g (b 9) 25 (fun _ => 0), lA g (b 10) 25 (fun _ => 0), lA g (b 11) 5 (fun _ => 0), iA g (b 12) 25 T1, bA g (b 13) 32 (fun _ => 0), bA g (b 23) 48 (fun _ => 0), iA g (b 29) 40 (fun _ => 0), bA g (b 30) 560 (fun _ => 0), bA g (b 31) 112 (fun _ => 0), bA g (b 32) 16 (fun _ => 0), bA g (b 33) 496 (fun _ => 0), bA g (b 34) 32 (fun _ => 0), bA g (b 35) 16 (fun _ => 0), bA g (b 36) 16 (fun _ => 0), iA g (b 37) 8 (fun _ => 0), bA g (b 38) 2000 (fun _ => 0), bA g (b 40) 96 (fun _ => 0), bA g (b 41) 16 (fun _ => 0), bA g (b 42) 16 (fun _ => 0)] rfl ?_
              refine j_st [] rfl ?_
              refine j_aload_n hX 0 dX11_init_747 rfl ?_
              refine j_iconst hX (0) dX11_init_748 (by decide) ?_
              refine j_st [.int (nI 0), .ref h] rfl ?_
              refine j_put hX (v := .int (nI 0)) (ty := .boolean) in11 tyX11 tyX11_ok nmX11 11 0 14 rfl rfl (by decide) (List.mem_of_getElem? (i := 111) rfl) rfl rfl rfl rfl rfl (Nat.le_of_ble_eq_true rfl) [oB h 11 (mO b (upd (upd (upd (upd (upd (upd (upd (upd (upd v 15 (nI 0)) 16 (nI 4)) 17 (nI 1)) 18 (nI 1)) 19 (nI 1)) 20 (nI 1)) 21 (nI (ln 4))) 22 (nI (sgS 4 1 1 1 1))) 14 (nI 0))), bA g (b 0) 600 (fun _ => 0), bA g (b 2) 1400 (fun _ => 0), bA g (b 4) 32 (fun _ => 0), iA g (b 5) 64 (fun _ => 0), iA g (b 6) 8 (fun _ => 0), iA g (b 7) 8 (tk s_first 8), iA g (b 8) 64 (tk s_cube 64), lA g (b 9) 25 (fun _ => 0), lA g (b 10) 25 (fun _ => 0), lA g (b 11) 5 (fun _ => 0), iA g (b 12) 25 T1, bA g (b 13) 32 (fun _ => 0), bA g (b 23) 48 (fun _ => 0), iA g (b 29) 40 (fun _ => 0), bA g (b 30) 560 (fun _ => 0), bA g (b 31) 112 (fun _ => 0), bA g (b 32) 16 (fun _ => 0), bA g (b 33) 496 (fun _ => 0), bA g (b 34) 32 (fun _ => 0), bA g (b 35) 16 (fun _ => 0), bA g (b 36) 16 (fun _ => 0), iA g (b 37) 8 (fun _ => 0), bA g (b 38) 2000 (fun _ => 0), bA g (b 40) 96 (fun _ => 0), bA g (b 41) 16 (fun _ => 0), bA g (b 42) 16 (fun _ => 0)] rfl dX11_init_749 ?_
              refine j_pc 752 rfl ?_
              refine j_iconst hX (0) dX11_init_752 (by decide) ?_
              refine j_st [.int (nI 0)] rfl ?_
              refine j_istore_n hX 3 [(3, .int (nI 0)), (0, .ref h), (1, .int (nI x)), (2, .int (nI y))] dX11_init_753 rfl (by decide) rfl ?_
              have lp_34 : ∀ (n_35 : Nat) (i : Nat) (X1 : Nat → Int32), (8 - i < n_35) → (i ≤ 8) → (∀ j, j < i → X1 j = -9) → J p l e ({ frames := 1, cells := 26, slots := 5760, locals := 20 } : Room) s m ([.ref h] : List Value).toArray below meth c g A 5 Q 26 5760 [oB h 11 (mO b (upd (upd (upd (upd (upd (upd (upd (upd (upd v 15 (nI 0)) 16 (nI 4)) 17 (nI 1)) 18 (nI 1)) 19 (nI 1)) 20 (nI 1)) 21 (nI (ln 4))) 22 (nI (sgS 4 1 1 1 1))) 14 (nI 0))), bA g (b 0) 600 (fun _ => 0), bA g (b 2) 1400 (fun _ => 0), bA g (b 4) 32 (fun _ => 0), iA g (b 5) 64 (fun _ => 0), iA g (b 6) 8 (fun _ => 0), iA g (b 7) 8 (tk s_first 8), iA g (b 8) 64 (tk s_cube 64), lA g (b 9) 25 (fun _ => 0), lA g (b 10) 25 (fun _ => 0), lA g (b 11) 5 (fun _ => 0), iA g (b 12) 25 T1, bA g (b 13) 32 (fun _ => 0), bA g (b 23) 48 (fun _ => 0), iA g (b 29) 40 (fun _ => 0), bA g (b 30) 560 (fun _ => 0), bA g (b 31) 112 (fun _ => 0), bA g (b 32) 16 (fun _ => 0), bA g (b 33) 496 (fun _ => 0), bA g (b 34) 32 (fun _ => 0), bA g (b 35) 16 (fun _ => 0), bA g (b 36) 16 (fun _ => 0), iA g (b 37) 8 X1, bA g (b 38) 2000 (fun _ => 0), bA g (b 40) 96 (fun _ => 0), bA g (b 41) 16 (fun _ => 0), bA g (b 42) 16 (fun _ => 0)] [(0, .ref h), (1, .int (nI x)), (2, .int (nI y)), (3, .int (nI i))] 754 [] := by
                intro n_35
                induction n_35 with
                | zero => intro i X1 hm; exact absurd hm (Nat.not_lt_zero _)
                | succ n_35 ih_36 =>
                  intro i X1 hm hi hX1
                  refine j_iload_n hX 3 dX11_init_754 rfl ?_
                  refine j_bipush hX (8) dX11_init_755 (by decide) ?_
                  refine j_icmp_geN hX i 8 774 dX11_init_757 (by decide) (by omega) (by omega) (fun b_757 => ?_) (fun b_757 => ?_)
                  · skip
                    exact hret (b, v, T1, X1) (by dsimp only; exact ⟨hv, fun k hk => by rw [hT, show t = 24 by omega]; exact tT_24 k hk, fun j hj => hX1 j (by omega)⟩) 774 _ dX11_init_774
                  · skip
                    refine j_aload_n hX 0 dX11_init_760 rfl ?_
                    refine j_get hX in11 11 0 37 (v := .ref (b 37)) rfl rfl (by decide) (List.mem_of_getElem? (i := 100) rfl) rfl rfl dX11_init_761 ?_
                    refine j_pc 764 rfl ?_
                    refine j_iload_n hX 3 dX11_init_764 rfl ?_
                    refine j_bipush hX (-9) dX11_init_765 (by decide) ?_
                    refine j_iastN hX 22 i rfl (by omega) (by omega) [oB h 11 (mO b (upd (upd (upd (upd (upd (upd (upd (upd (upd v 15 (nI 0)) 16 (nI 4)) 17 (nI 1)) 18 (nI 1)) 19 (nI 1)) 20 (nI 1)) 21 (nI (ln 4))) 22 (nI (sgS 4 1 1 1 1))) 14 (nI 0))), bA g (b 0) 600 (fun _ => 0), bA g (b 2) 1400 (fun _ => 0), bA g (b 4) 32 (fun _ => 0), iA g (b 5) 64 (fun _ => 0), iA g (b 6) 8 (fun _ => 0), iA g (b 7) 8 (tk s_first 8), iA g (b 8) 64 (tk s_cube 64), lA g (b 9) 25 (fun _ => 0), lA g (b 10) 25 (fun _ => 0), lA g (b 11) 5 (fun _ => 0), iA g (b 12) 25 T1, bA g (b 13) 32 (fun _ => 0), bA g (b 23) 48 (fun _ => 0), iA g (b 29) 40 (fun _ => 0), bA g (b 30) 560 (fun _ => 0), bA g (b 31) 112 (fun _ => 0), bA g (b 32) 16 (fun _ => 0), bA g (b 33) 496 (fun _ => 0), bA g (b 34) 32 (fun _ => 0), bA g (b 35) 16 (fun _ => 0), bA g (b 36) 16 (fun _ => 0), iA g (b 37) 8 (upd X1 i (-9)), bA g (b 38) 2000 (fun _ => 0), bA g (b 40) 96 (fun _ => 0), bA g (b 41) 16 (fun _ => 0), bA g (b 42) 16 (fun _ => 0)] rfl dX11_init_767 ?_
                    refine j_iincN hX i (i + 1) [(3, .int (nI (i + 1))), (0, .ref h), (1, .int (nI x)), (2, .int (nI y))] 3 dX11_init_768 rfl (nI_1 _) (by decide) rfl ?_
                    refine j_goto hX 754 dX11_init_771 (by decide) ?_
                    refine j_perm [(0, .ref h), (1, .int (nI x)), (2, .int (nI y)), (3, .int (nI (i + 1)))] [1, 2, 3, 0] rfl ?_
                    exact ih_36 (i + 1) (upd X1 i (-9)) (by omega) (by omega) (fun j hj => by unfold upd; split; rfl; exact hX1 j (by omega))
              refine j_perm [(0, .ref h), (1, .int (nI x)), (2, .int (nI y)), (3, .int (nI 0))] [1, 2, 3, 0] rfl ?_
              exact lp_34 _ 0 (fun _ => 0) (Nat.lt_succ_self _) (by omega) (fun j hj => absurd hj (Nat.not_lt_zero j))
            · skip
              obtain ⟨hx5, hy5⟩ := xyT_lt t (by omega)
              have htt : (t + 1) * (t + 2) ≤ 25 * 26 := Nat.mul_le_mul (by omega) (by omega)
              refine j_aload_n hX 0 dX11_init_669 rfl ?_
              refine j_get hX in11 11 0 12 (v := .ref (b 12)) rfl rfl (by decide) (List.mem_of_getElem? (i := 89) rfl) rfl rfl dX11_init_670 ?_
              refine j_iload_n hX 1 dX11_init_673 rfl ?_
              refine j_pc 674 rfl ?_
              refine j_iconst hX (5) dX11_init_674 (by decide) ?_
              refine j_iload_n hX 2 dX11_init_675 rfl ?_
              refine j_imulN hX 5 y dX11_init_676 ?_
              refine j_iaddN hX x (5 * y) dX11_init_677 ?_
              refine j_iload_n hX 3 dX11_init_678 rfl ?_
              refine j_iconst hX (1) dX11_init_679 (by decide) ?_
              refine j_iaddN hX t 1 dX11_init_680 ?_
              refine j_iload_n hX 3 dX11_init_681 rfl ?_
              refine j_pc 682 rfl ?_
              refine j_iconst hX (2) dX11_init_682 (by decide) ?_
              refine j_iaddN hX t 2 dX11_init_683 ?_
              refine j_imulN hX (t + 1) (t + 2) dX11_init_684 ?_
              refine j_iconst hX (2) dX11_init_685 (by decide) ?_
              refine j_idivN hX ((t + 1) * (t + 2)) 2 (by omega) (by omega) (by omega) dX11_init_686 ?_
              refine j_bipush hX (64) dX11_init_687 (by decide) ?_
              refine j_iremN hX (((t + 1) * (t + 2)) / 2) 64 (by omega) (by omega) (by omega) dX11_init_689 ?_
              refine j_iastN hX 11 (x + (5 * y)) rfl (by omega) (by omega) [oB h 11 (mO b v), bA g (b 0) 600 (fun _ => 0), bA g (b 2) 1400 (fun _ => 0), bA g (b 4) 32 (fun _ => 0), iA g (b 5) 64 (fun _ => 0), iA g (b 6) 8 (fun _ => 0), iA g (b 7) 8 (tk s_first 8), iA g (b 8) 64 (tk s_cube 64), lA g (b 9) 25 (fun _ => 0), lA g (b 10) 25 (fun _ => 0), lA g (b 11) 5 (fun _ => 0), iA g (b 12) 25 (upd T1 (x + (5 * y)) (nI ((((t + 1) * (t + 2)) / 2) % 64))), bA g (b 13) 32 (fun _ => 0), bA g (b 23) 48 (fun _ => 0), iA g (b 29) 40 (fun _ => 0), bA g (b 30) 560 (fun _ => 0), bA g (b 31) 112 (fun _ => 0), bA g (b 32) 16 (fun _ => 0), bA g (b 33) 496 (fun _ => 0), bA g (b 34) 32 (fun _ => 0), bA g (b 35) 16 (fun _ => 0), bA g (b 36) 16 (fun _ => 0), iA g (b 37) 8 (fun _ => 0), bA g (b 38) 2000 (fun _ => 0), bA g (b 40) 96 (fun _ => 0), bA g (b 41) 16 (fun _ => 0), bA g (b 42) 16 (fun _ => 0)] rfl dX11_init_690 ?_
              refine j_pc 691 rfl ?_
              refine j_iconst hX (2) dX11_init_691 (by decide) ?_
              refine j_iload_n hX 1 dX11_init_692 rfl ?_
              refine j_imulN hX 2 x dX11_init_693 ?_
              refine j_iconst hX (3) dX11_init_694 (by decide) ?_
              refine j_iload_n hX 2 dX11_init_695 rfl ?_
              refine j_imulN hX 3 y dX11_init_696 ?_
              refine j_iaddN hX (2 * x) (3 * y) dX11_init_697 ?_
              refine j_iconst hX (5) dX11_init_698 (by decide) ?_
              refine j_pc 699 rfl ?_
              refine j_iremN hX ((2 * x) + (3 * y)) 5 (by omega) (by omega) (by omega) dX11_init_699 ?_
              refine j_istore hX [(4, .int (nI (((2 * x) + (3 * y)) % 5))), (0, .ref h), (1, .int (nI x)), (2, .int (nI y)), (3, .int (nI t))] dX11_init_700 (by decide) rfl ?_
              refine j_iload_n hX 3 dX11_init_702 rfl ?_
              refine j_istore_n hX 1 [(1, .int (nI y)), (4, .int (nI (((2 * x) + (3 * y)) % 5))), (0, .ref h), (2, .int (nI y)), (3, .int (nI t))] dX11_init_703 rfl (by decide) rfl ?_
              refine j_iload hX 1 dX11_init_704 rfl ?_
              refine j_istore_n hX 2 [(2, .int (nI (((2 * x) + (3 * y)) % 5))), (1, .int (nI y)), (4, .int (nI (((2 * x) + (3 * y)) % 5))), (0, .ref h), (3, .int (nI t))] dX11_init_706 rfl (by decide) rfl ?_
              refine j_iincN hX t (t + 1) [(3, .int (nI (t + 1))), (2, .int (nI (((2 * x) + (3 * y)) % 5))), (1, .int (nI y)), (4, .int (nI (((2 * x) + (3 * y)) % 5))), (0, .ref h)] 4 dX11_init_707 rfl (nI_1 _) (by decide) rfl ?_
              refine j_goto hX 663 dX11_init_710 (by decide) ?_
              refine j_perm [(0, .ref h), (1, .int (nI y)), (2, .int (nI (((2 * x) + (3 * y)) % 5))), (3, .int (nI (t + 1)))] [4, 2, 1, 0] rfl ?_
              exact ih_32 (t + 1) y (((2 * x) + (3 * y)) % 5) (upd T1 (x + (5 * y)) (nI ((((t + 1) * (t + 2)) / 2) % 64))) (by omega) (by omega) (by rw [hy]; rfl) (by rw [hx, hy]; rfl) (by rw [hT, hx, hy]; rfl)
        refine j_perm [(0, .ref h), (1, .int (nI 1)), (2, .int (nI 0)), (3, .int (nI 0))] [3, 2, 1, 0] rfl ?_
        exact lp_30 _ 0 1 0 T1 (Nat.lt_succ_self _) (by omega) rfl rfl hT
      · skip
        refine j_pc 644 rfl ?_
        refine j_aload_n hX 0 dX11_init_644 rfl ?_
        refine j_get hX in11 11 0 12 (v := .ref (b 12)) rfl rfl (by decide) (List.mem_of_getElem? (i := 89) rfl) rfl rfl dX11_init_645 ?_
        refine j_iload_n hX 1 dX11_init_648 rfl ?_
        refine j_iconst hX (0) dX11_init_649 (by decide) ?_
        refine j_iastN hX 11 i rfl (by omega) (by omega) [oB h 11 (mO b v), bA g (b 0) 600 (fun _ => 0), bA g (b 2) 1400 (fun _ => 0), bA g (b 4) 32 (fun _ => 0), iA g (b 5) 64 (fun _ => 0), iA g (b 6) 8 (fun _ => 0), iA g (b 7) 8 (tk s_first 8), iA g (b 8) 64 (tk s_cube 64), lA g (b 9) 25 (fun _ => 0), lA g (b 10) 25 (fun _ => 0), lA g (b 11) 5 (fun _ => 0), iA g (b 12) 25 (upd T1 i 0), bA g (b 13) 32 (fun _ => 0), bA g (b 23) 48 (fun _ => 0), iA g (b 29) 40 (fun _ => 0), bA g (b 30) 560 (fun _ => 0), bA g (b 31) 112 (fun _ => 0), bA g (b 32) 16 (fun _ => 0), bA g (b 33) 496 (fun _ => 0), bA g (b 34) 32 (fun _ => 0), bA g (b 35) 16 (fun _ => 0), bA g (b 36) 16 (fun _ => 0), iA g (b 37) 8 (fun _ => 0), bA g (b 38) 2000 (fun _ => 0), bA g (b 40) 96 (fun _ => 0), bA g (b 41) 16 (fun _ => 0), bA g (b 42) 16 (fun _ => 0)] rfl dX11_init_650 ?_
        refine j_iincN hX i (i + 1) [(1, .int (nI (i + 1))), (0, .ref h)] 1 dX11_init_651 rfl (nI_1 _) (by decide) rfl ?_
        refine j_goto hX 638 dX11_init_654 (by decide) ?_
        refine j_perm [(0, .ref h), (1, .int (nI (i + 1)))] [1, 0] rfl ?_
        exact ih_29 (i + 1) (upd T1 i 0) (by omega) (by omega) (by rw [hT]; exact upd_zero _)
  refine j_perm [(0, .ref h), (1, .int (nI 0))] [1, 0] rfl ?_
  exact lp_27 _ 0 (fun _ => 0) (Nat.lt_succ_self _) (by omega) rfl

