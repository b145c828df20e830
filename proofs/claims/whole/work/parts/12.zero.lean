theorem st8_chain {F T0 T1 T2 T3 T4 T5 T6 T7 : Nat → Int32} {va vb vc vd ve vf vg vh : Int32} (e0 : T0 = upd F 0 (F 0 + va)) (e1 : T1 = upd T0 1 (T0 1 + vb)) (e2 : T2 = upd T1 2 (T1 2 + vc)) (e3 : T3 = upd T2 3 (T2 3 + vd)) (e4 : T4 = upd T3 4 (T3 4 + ve)) (e5 : T5 = upd T4 5 (T4 5 + vf)) (e6 : T6 = upd T5 6 (T5 6 + vg)) (e7 : T7 = upd T6 7 (T6 7 + vh)) : st8 T7 = add8 (st8 F) (va, vb, vc, vd, ve, vf, vg, vh) := by
  subst e0 e1 e2 e3 e4 e5 e6 e7
  rfl
theorem z0_lt (n : Nat) : z0 n < 64 := Nat.mod_lt _ (by decide)
theorem wNext_lo {f : Nat → Int32} {t i : Nat} (h : i < 16) : wNext f t (Wl f t i) = bw f t i := by
  unfold wNext
  rw [Wl_length, if_pos h]
theorem wNext_hi {f : Nat → Int32} {t i : Nat} (h : 16 ≤ i) : wNext f t (Wl f t i) = ((sg1 ((Wl f t i).getD (i - 2) 0) + (Wl f t i).getD (i - 7) 0) + sg0 ((Wl f t i).getD (i - 15) 0)) + (Wl f t i).getD (i - 16) 0 := by
  unfold wNext
  rw [Wl_length, if_neg (by omega)]
theorem W_lo {f w G : Nat → Int32} {t i : Nat} (hG : G = putL w 0 (Wl f t i)) (h : i < 16) : upd G i (bw f t i) = putL w 0 (Wl f t (i + 1)) := by
  rw [hG, putL_snoc (by rw [Wl_length]; omega), Wl, wNext_lo h]
theorem W_at {f w G : Nat → Int32} {t i j : Nat} (hG : G = putL w 0 (Wl f t i)) (h : j < i) : G j = (Wl f t i).getD j 0 := by
  have := putL_in (f := w) (n := 0) (L := Wl f t i) (j := j) (by rw [Wl_length]; exact h)
  rw [Nat.zero_add] at this
  rw [hG, this]
theorem W_step {f w G : Nat → Int32} {t i : Nat} (hG : G = putL w 0 (Wl f t i)) (h : 16 ≤ i) : upd G i (((sg1 (G (i - 2)) + G (i - 7)) + sg0 (G (i - 15))) + G (i - 16)) = putL w 0 (Wl f t (i + 1)) := by
  rw [W_at hG (by omega), W_at hG (by omega), W_at hG (by omega), W_at hG (by omega), hG, putL_snoc (by rw [Wl_length]; omega), Wl, wNext_hi h]
theorem rds_congr {w w2 : Nat → Int32} (x : S8) : ∀ n, (∀ j, j < n → w j = w2 j) → rds w x n = rds w2 x n
  | 0, _ => rfl
  | n + 1, h => by rw [rds, rds, rds_congr x n (fun j hj => h j (by omega)), h n (by omega)]
theorem blk_of {f w W S T : Nat → Int32} {t k : Nat} (hS : st8 S = hs0 f k) (ht : t = 64 * k) (hW : W = putL w 0 (Wl f t 64)) (h : st8 T = add8 (st8 S) (rds W (st8 S) 64)) : st8 T = hs0 f (k + 1) := by
  subst ht
  rw [h, hs0, blk, hS, rds_congr (w2 := lF (Wl f (64 * k) 64)) _ 64 (fun j hj => W_at hW hj)]
theorem pad0_at (f : Nat → Int32) (n : Nat) : ∀ j, j < n + (tail0 n).length → putL f n (tail0 n) j = lF (pad0 (slice f 0 n)) j := by
  intro j hj
  unfold lF pad0
  rw [slice_length]
  simp only [List.getD]
  by_cases h : j < n
  · rw [putL_out (Or.inl h), List.getElem?_append_left (by rw [slice_length]; exact h)]
    have := slice_getD (f := f) (s := 0) h
    simp only [List.getD, Nat.zero_add] at this
    rw [this]
  · obtain ⟨k, rfl⟩ : ∃ k, j = n + k := ⟨j - n, by omega⟩
    rw [putL_in (by omega), List.getElem?_append_right (by rw [slice_length]; omega), slice_length, Nat.add_sub_cancel_left]
    rfl
theorem HASH0_of {f S : Nat → Int32} {n k : Nat} (h : st8 S = hs0 (putL f n (tail0 n)) k) (hk : 64 * k = n + (tail0 n).length) : D0l S 8 = HASH0 (slice f 0 n) := by
  rw [D0_st, h, HASH0]
  have e : (pad0 (slice f 0 n)).length = 64 * k := by unfold pad0; rw [List.length_append, slice_length, hk]
  rw [e, Nat.mul_div_cancel_left k (by decide), hs0_congr k (fun j hj => pad0_at f n j (by omega))]
theorem tail0_eq {f f1 f2 f3 : Nat → Int32} {n : Nat} (h1 : f1 = putL f n (Zl 128 1)) (h2 : f2 = putL f1 (n + 1) (Zl 0 ((120 - (n + 1) % 64) % 64))) (h3 : f3 = putL f2 (n + 1 + (120 - (n + 1) % 64) % 64) (Zl ((8 : Int64) * (nI n).toInt64) 8)) : f3 = putL f n (tail0 n) := by
  rw [h3, h2, h1, putL_app' (by rw [Zl_length]), putL_app' (by rw [Zl_length]), Zl_128, zeros_Zl]
  rfl

theorem dX4_spread_0 : decode cX4_spread 0 = .ok (.iconst 0, 1) := by decide +kernel
theorem dX4_spread_1 : decode cX4_spread 1 = .ok (.istore_n 3, 1) := by decide +kernel
theorem dX4_spread_2 : decode cX4_spread 2 = .ok (.iload_n 3, 1) := by decide +kernel
theorem dX4_spread_3 : decode cX4_spread 3 = .ok (.bipush 16, 2) := by decide +kernel
theorem dX4_spread_5 : decode cX4_spread 5 = .ok (.if_icmp .ge 68, 3) := by decide +kernel
theorem dX4_spread_8 : decode cX4_spread 8 = .ok (.iload_n 2, 1) := by decide +kernel
theorem dX4_spread_9 : decode cX4_spread 9 = .ok (.iconst 4, 1) := by decide +kernel
theorem dX4_spread_10 : decode cX4_spread 10 = .ok (.iload_n 3, 1) := by decide +kernel
theorem dX4_spread_11 : decode cX4_spread 11 = .ok (.imul, 1) := by decide +kernel
theorem dX4_spread_12 : decode cX4_spread 12 = .ok (.iadd, 1) := by decide +kernel
theorem dX4_spread_13 : decode cX4_spread 13 = .ok (.istore 4, 2) := by decide +kernel
theorem dX4_spread_15 : decode cX4_spread 15 = .ok (.aload_n 0, 1) := by decide +kernel
theorem dX4_spread_16 : decode cX4_spread 16 = .ok (.getfield 13, 3) := by decide +kernel
theorem dX4_spread_19 : decode cX4_spread 19 = .ok (.iload_n 3, 1) := by decide +kernel
theorem dX4_spread_20 : decode cX4_spread 20 = .ok (.aload_n 1, 1) := by decide +kernel
theorem dX4_spread_21 : decode cX4_spread 21 = .ok (.iload 4, 2) := by decide +kernel
theorem dX4_spread_23 : decode cX4_spread 23 = .ok (.baload, 1) := by decide +kernel
theorem dX4_spread_24 : decode cX4_spread 24 = .ok (.bipush 24, 2) := by decide +kernel
theorem dX4_spread_26 : decode cX4_spread 26 = .ok (.ishl, 1) := by decide +kernel
theorem dX4_spread_27 : decode cX4_spread 27 = .ok (.aload_n 1, 1) := by decide +kernel
theorem dX4_spread_28 : decode cX4_spread 28 = .ok (.iload 4, 2) := by decide +kernel
theorem dX4_spread_30 : decode cX4_spread 30 = .ok (.iconst 1, 1) := by decide +kernel
theorem dX4_spread_31 : decode cX4_spread 31 = .ok (.iadd, 1) := by decide +kernel
theorem dX4_spread_32 : decode cX4_spread 32 = .ok (.baload, 1) := by decide +kernel
theorem dX4_spread_33 : decode cX4_spread 33 = .ok (.sipush 255, 3) := by decide +kernel
theorem dX4_spread_36 : decode cX4_spread 36 = .ok (.iand, 1) := by decide +kernel
theorem dX4_spread_37 : decode cX4_spread 37 = .ok (.bipush 16, 2) := by decide +kernel
theorem dX4_spread_39 : decode cX4_spread 39 = .ok (.ishl, 1) := by decide +kernel
theorem dX4_spread_40 : decode cX4_spread 40 = .ok (.ior, 1) := by decide +kernel
theorem dX4_spread_41 : decode cX4_spread 41 = .ok (.aload_n 1, 1) := by decide +kernel
theorem dX4_spread_42 : decode cX4_spread 42 = .ok (.iload 4, 2) := by decide +kernel
theorem dX4_spread_44 : decode cX4_spread 44 = .ok (.iconst 2, 1) := by decide +kernel
theorem dX4_spread_45 : decode cX4_spread 45 = .ok (.iadd, 1) := by decide +kernel
theorem dX4_spread_46 : decode cX4_spread 46 = .ok (.baload, 1) := by decide +kernel
theorem dX4_spread_47 : decode cX4_spread 47 = .ok (.sipush 255, 3) := by decide +kernel
theorem dX4_spread_50 : decode cX4_spread 50 = .ok (.iand, 1) := by decide +kernel
theorem dX4_spread_51 : decode cX4_spread 51 = .ok (.bipush 8, 2) := by decide +kernel
theorem dX4_spread_53 : decode cX4_spread 53 = .ok (.ishl, 1) := by decide +kernel
theorem dX4_spread_54 : decode cX4_spread 54 = .ok (.ior, 1) := by decide +kernel
theorem dX4_spread_55 : decode cX4_spread 55 = .ok (.aload_n 1, 1) := by decide +kernel
theorem dX4_spread_56 : decode cX4_spread 56 = .ok (.iload 4, 2) := by decide +kernel
theorem dX4_spread_58 : decode cX4_spread 58 = .ok (.iconst 3, 1) := by decide +kernel
theorem dX4_spread_59 : decode cX4_spread 59 = .ok (.iadd, 1) := by decide +kernel
theorem dX4_spread_60 : decode cX4_spread 60 = .ok (.baload, 1) := by decide +kernel
theorem dX4_spread_61 : decode cX4_spread 61 = .ok (.sipush 255, 3) := by decide +kernel
theorem dX4_spread_64 : decode cX4_spread 64 = .ok (.iand, 1) := by decide +kernel
theorem dX4_spread_65 : decode cX4_spread 65 = .ok (.ior, 1) := by decide +kernel
theorem dX4_spread_66 : decode cX4_spread 66 = .ok (.iastore, 1) := by decide +kernel
theorem dX4_spread_67 : decode cX4_spread 67 = .ok (.iinc 3 1, 3) := by decide +kernel
theorem dX4_spread_70 : decode cX4_spread 70 = .ok (.goto (-68), 3) := by decide +kernel
theorem dX4_spread_73 : decode cX4_spread 73 = .ok (.bipush 16, 2) := by decide +kernel
theorem dX4_spread_75 : decode cX4_spread 75 = .ok (.istore_n 3, 1) := by decide +kernel
theorem dX4_spread_76 : decode cX4_spread 76 = .ok (.iload_n 3, 1) := by decide +kernel
theorem dX4_spread_77 : decode cX4_spread 77 = .ok (.bipush 64, 2) := by decide +kernel
theorem dX4_spread_79 : decode cX4_spread 79 = .ok (.if_icmp .ge 122, 3) := by decide +kernel
theorem dX4_spread_82 : decode cX4_spread 82 = .ok (.aload_n 0, 1) := by decide +kernel
theorem dX4_spread_83 : decode cX4_spread 83 = .ok (.getfield 13, 3) := by decide +kernel
theorem dX4_spread_86 : decode cX4_spread 86 = .ok (.iload_n 3, 1) := by decide +kernel
theorem dX4_spread_87 : decode cX4_spread 87 = .ok (.bipush 15, 2) := by decide +kernel
theorem dX4_spread_89 : decode cX4_spread 89 = .ok (.isub, 1) := by decide +kernel
theorem dX4_spread_90 : decode cX4_spread 90 = .ok (.iaload, 1) := by decide +kernel
theorem dX4_spread_91 : decode cX4_spread 91 = .ok (.istore 4, 2) := by decide +kernel
theorem dX4_spread_93 : decode cX4_spread 93 = .ok (.aload_n 0, 1) := by decide +kernel
theorem dX4_spread_94 : decode cX4_spread 94 = .ok (.getfield 13, 3) := by decide +kernel
theorem dX4_spread_97 : decode cX4_spread 97 = .ok (.iload_n 3, 1) := by decide +kernel
theorem dX4_spread_98 : decode cX4_spread 98 = .ok (.iconst 2, 1) := by decide +kernel
theorem dX4_spread_99 : decode cX4_spread 99 = .ok (.isub, 1) := by decide +kernel
theorem dX4_spread_100 : decode cX4_spread 100 = .ok (.iaload, 1) := by decide +kernel
theorem dX4_spread_101 : decode cX4_spread 101 = .ok (.istore 5, 2) := by decide +kernel
theorem dX4_spread_103 : decode cX4_spread 103 = .ok (.iload 4, 2) := by decide +kernel
theorem dX4_spread_105 : decode cX4_spread 105 = .ok (.bipush 7, 2) := by decide +kernel
theorem dX4_spread_107 : decode cX4_spread 107 = .ok (.iushr, 1) := by decide +kernel
theorem dX4_spread_108 : decode cX4_spread 108 = .ok (.iload 4, 2) := by decide +kernel
theorem dX4_spread_110 : decode cX4_spread 110 = .ok (.bipush 25, 2) := by decide +kernel
theorem dX4_spread_112 : decode cX4_spread 112 = .ok (.ishl, 1) := by decide +kernel
theorem dX4_spread_113 : decode cX4_spread 113 = .ok (.ior, 1) := by decide +kernel
theorem dX4_spread_114 : decode cX4_spread 114 = .ok (.iload 4, 2) := by decide +kernel
theorem dX4_spread_116 : decode cX4_spread 116 = .ok (.bipush 18, 2) := by decide +kernel
theorem dX4_spread_118 : decode cX4_spread 118 = .ok (.iushr, 1) := by decide +kernel
theorem dX4_spread_119 : decode cX4_spread 119 = .ok (.iload 4, 2) := by decide +kernel
theorem dX4_spread_121 : decode cX4_spread 121 = .ok (.bipush 14, 2) := by decide +kernel
theorem dX4_spread_123 : decode cX4_spread 123 = .ok (.ishl, 1) := by decide +kernel
theorem dX4_spread_124 : decode cX4_spread 124 = .ok (.ior, 1) := by decide +kernel
theorem dX4_spread_125 : decode cX4_spread 125 = .ok (.ixor, 1) := by decide +kernel
theorem dX4_spread_126 : decode cX4_spread 126 = .ok (.iload 4, 2) := by decide +kernel
theorem dX4_spread_128 : decode cX4_spread 128 = .ok (.iconst 3, 1) := by decide +kernel
theorem dX4_spread_129 : decode cX4_spread 129 = .ok (.iushr, 1) := by decide +kernel
theorem dX4_spread_130 : decode cX4_spread 130 = .ok (.ixor, 1) := by decide +kernel
theorem dX4_spread_131 : decode cX4_spread 131 = .ok (.istore 6, 2) := by decide +kernel
theorem dX4_spread_133 : decode cX4_spread 133 = .ok (.iload 5, 2) := by decide +kernel
theorem dX4_spread_135 : decode cX4_spread 135 = .ok (.bipush 17, 2) := by decide +kernel
theorem dX4_spread_137 : decode cX4_spread 137 = .ok (.iushr, 1) := by decide +kernel
theorem dX4_spread_138 : decode cX4_spread 138 = .ok (.iload 5, 2) := by decide +kernel
theorem dX4_spread_140 : decode cX4_spread 140 = .ok (.bipush 15, 2) := by decide +kernel
theorem dX4_spread_142 : decode cX4_spread 142 = .ok (.ishl, 1) := by decide +kernel
theorem dX4_spread_143 : decode cX4_spread 143 = .ok (.ior, 1) := by decide +kernel
theorem dX4_spread_144 : decode cX4_spread 144 = .ok (.iload 5, 2) := by decide +kernel
theorem dX4_spread_146 : decode cX4_spread 146 = .ok (.bipush 19, 2) := by decide +kernel
theorem dX4_spread_148 : decode cX4_spread 148 = .ok (.iushr, 1) := by decide +kernel
theorem dX4_spread_149 : decode cX4_spread 149 = .ok (.iload 5, 2) := by decide +kernel
theorem dX4_spread_151 : decode cX4_spread 151 = .ok (.bipush 13, 2) := by decide +kernel
theorem dX4_spread_153 : decode cX4_spread 153 = .ok (.ishl, 1) := by decide +kernel
theorem dX4_spread_154 : decode cX4_spread 154 = .ok (.ior, 1) := by decide +kernel
theorem dX4_spread_155 : decode cX4_spread 155 = .ok (.ixor, 1) := by decide +kernel
theorem dX4_spread_156 : decode cX4_spread 156 = .ok (.iload 5, 2) := by decide +kernel
theorem dX4_spread_158 : decode cX4_spread 158 = .ok (.bipush 10, 2) := by decide +kernel
theorem dX4_spread_160 : decode cX4_spread 160 = .ok (.iushr, 1) := by decide +kernel
theorem dX4_spread_161 : decode cX4_spread 161 = .ok (.ixor, 1) := by decide +kernel
theorem dX4_spread_162 : decode cX4_spread 162 = .ok (.istore 7, 2) := by decide +kernel
theorem dX4_spread_164 : decode cX4_spread 164 = .ok (.aload_n 0, 1) := by decide +kernel
theorem dX4_spread_165 : decode cX4_spread 165 = .ok (.getfield 13, 3) := by decide +kernel
theorem dX4_spread_168 : decode cX4_spread 168 = .ok (.iload_n 3, 1) := by decide +kernel
theorem dX4_spread_169 : decode cX4_spread 169 = .ok (.iload 7, 2) := by decide +kernel
theorem dX4_spread_171 : decode cX4_spread 171 = .ok (.aload_n 0, 1) := by decide +kernel
theorem dX4_spread_172 : decode cX4_spread 172 = .ok (.getfield 13, 3) := by decide +kernel
theorem dX4_spread_175 : decode cX4_spread 175 = .ok (.iload_n 3, 1) := by decide +kernel
theorem dX4_spread_176 : decode cX4_spread 176 = .ok (.bipush 7, 2) := by decide +kernel
theorem dX4_spread_178 : decode cX4_spread 178 = .ok (.isub, 1) := by decide +kernel
theorem dX4_spread_179 : decode cX4_spread 179 = .ok (.iaload, 1) := by decide +kernel
theorem dX4_spread_180 : decode cX4_spread 180 = .ok (.iadd, 1) := by decide +kernel
theorem dX4_spread_181 : decode cX4_spread 181 = .ok (.iload 6, 2) := by decide +kernel
theorem dX4_spread_183 : decode cX4_spread 183 = .ok (.iadd, 1) := by decide +kernel
theorem dX4_spread_184 : decode cX4_spread 184 = .ok (.aload_n 0, 1) := by decide +kernel
theorem dX4_spread_185 : decode cX4_spread 185 = .ok (.getfield 13, 3) := by decide +kernel
theorem dX4_spread_188 : decode cX4_spread 188 = .ok (.iload_n 3, 1) := by decide +kernel
theorem dX4_spread_189 : decode cX4_spread 189 = .ok (.bipush 16, 2) := by decide +kernel
theorem dX4_spread_191 : decode cX4_spread 191 = .ok (.isub, 1) := by decide +kernel
theorem dX4_spread_192 : decode cX4_spread 192 = .ok (.iaload, 1) := by decide +kernel
theorem dX4_spread_193 : decode cX4_spread 193 = .ok (.iadd, 1) := by decide +kernel
theorem dX4_spread_194 : decode cX4_spread 194 = .ok (.iastore, 1) := by decide +kernel
theorem dX4_spread_195 : decode cX4_spread 195 = .ok (.iinc 3 1, 3) := by decide +kernel
theorem dX4_spread_198 : decode cX4_spread 198 = .ok (.goto (-122), 3) := by decide +kernel
theorem dX4_spread_201 : decode cX4_spread 201 = .ok (.return_, 1) := by decide +kernel
theorem dX4_stir_0 : decode cX4_stir 0 = .ok (.aload_n 0, 1) := by decide +kernel
theorem dX4_stir_1 : decode cX4_stir 1 = .ok (.getfield 7, 3) := by decide +kernel
theorem dX4_stir_4 : decode cX4_stir 4 = .ok (.iconst 0, 1) := by decide +kernel
theorem dX4_stir_5 : decode cX4_stir 5 = .ok (.iaload, 1) := by decide +kernel
theorem dX4_stir_6 : decode cX4_stir 6 = .ok (.istore_n 1, 1) := by decide +kernel
theorem dX4_stir_7 : decode cX4_stir 7 = .ok (.aload_n 0, 1) := by decide +kernel
theorem dX4_stir_8 : decode cX4_stir 8 = .ok (.getfield 7, 3) := by decide +kernel
theorem dX4_stir_11 : decode cX4_stir 11 = .ok (.iconst 1, 1) := by decide +kernel
theorem dX4_stir_12 : decode cX4_stir 12 = .ok (.iaload, 1) := by decide +kernel
theorem dX4_stir_13 : decode cX4_stir 13 = .ok (.istore_n 2, 1) := by decide +kernel
theorem dX4_stir_14 : decode cX4_stir 14 = .ok (.aload_n 0, 1) := by decide +kernel
theorem dX4_stir_15 : decode cX4_stir 15 = .ok (.getfield 7, 3) := by decide +kernel
theorem dX4_stir_18 : decode cX4_stir 18 = .ok (.iconst 2, 1) := by decide +kernel
theorem dX4_stir_19 : decode cX4_stir 19 = .ok (.iaload, 1) := by decide +kernel
theorem dX4_stir_20 : decode cX4_stir 20 = .ok (.istore_n 3, 1) := by decide +kernel
theorem dX4_stir_21 : decode cX4_stir 21 = .ok (.aload_n 0, 1) := by decide +kernel
theorem dX4_stir_22 : decode cX4_stir 22 = .ok (.getfield 7, 3) := by decide +kernel
theorem dX4_stir_25 : decode cX4_stir 25 = .ok (.iconst 3, 1) := by decide +kernel
theorem dX4_stir_26 : decode cX4_stir 26 = .ok (.iaload, 1) := by decide +kernel
theorem dX4_stir_27 : decode cX4_stir 27 = .ok (.istore 4, 2) := by decide +kernel
theorem dX4_stir_29 : decode cX4_stir 29 = .ok (.aload_n 0, 1) := by decide +kernel
theorem dX4_stir_30 : decode cX4_stir 30 = .ok (.getfield 7, 3) := by decide +kernel
theorem dX4_stir_33 : decode cX4_stir 33 = .ok (.iconst 4, 1) := by decide +kernel
theorem dX4_stir_34 : decode cX4_stir 34 = .ok (.iaload, 1) := by decide +kernel
theorem dX4_stir_35 : decode cX4_stir 35 = .ok (.istore 5, 2) := by decide +kernel
theorem dX4_stir_37 : decode cX4_stir 37 = .ok (.aload_n 0, 1) := by decide +kernel
theorem dX4_stir_38 : decode cX4_stir 38 = .ok (.getfield 7, 3) := by decide +kernel
theorem dX4_stir_41 : decode cX4_stir 41 = .ok (.iconst 5, 1) := by decide +kernel
theorem dX4_stir_42 : decode cX4_stir 42 = .ok (.iaload, 1) := by decide +kernel
theorem dX4_stir_43 : decode cX4_stir 43 = .ok (.istore 6, 2) := by decide +kernel
theorem dX4_stir_45 : decode cX4_stir 45 = .ok (.aload_n 0, 1) := by decide +kernel
theorem dX4_stir_46 : decode cX4_stir 46 = .ok (.getfield 7, 3) := by decide +kernel
theorem dX4_stir_49 : decode cX4_stir 49 = .ok (.bipush 6, 2) := by decide +kernel
theorem dX4_stir_51 : decode cX4_stir 51 = .ok (.iaload, 1) := by decide +kernel
theorem dX4_stir_52 : decode cX4_stir 52 = .ok (.istore 7, 2) := by decide +kernel
theorem dX4_stir_54 : decode cX4_stir 54 = .ok (.aload_n 0, 1) := by decide +kernel
theorem dX4_stir_55 : decode cX4_stir 55 = .ok (.getfield 7, 3) := by decide +kernel
theorem dX4_stir_58 : decode cX4_stir 58 = .ok (.bipush 7, 2) := by decide +kernel
theorem dX4_stir_60 : decode cX4_stir 60 = .ok (.iaload, 1) := by decide +kernel
theorem dX4_stir_61 : decode cX4_stir 61 = .ok (.istore 8, 2) := by decide +kernel
theorem dX4_stir_63 : decode cX4_stir 63 = .ok (.iconst 0, 1) := by decide +kernel
theorem dX4_stir_64 : decode cX4_stir 64 = .ok (.istore 9, 2) := by decide +kernel
theorem dX4_stir_66 : decode cX4_stir 66 = .ok (.iload 9, 2) := by decide +kernel
theorem dX4_stir_68 : decode cX4_stir 68 = .ok (.bipush 64, 2) := by decide +kernel
theorem dX4_stir_70 : decode cX4_stir 70 = .ok (.if_icmp .ge 160, 3) := by decide +kernel
theorem dX4_stir_73 : decode cX4_stir 73 = .ok (.iload 5, 2) := by decide +kernel
theorem dX4_stir_75 : decode cX4_stir 75 = .ok (.bipush 6, 2) := by decide +kernel
theorem dX4_stir_77 : decode cX4_stir 77 = .ok (.iushr, 1) := by decide +kernel
theorem dX4_stir_78 : decode cX4_stir 78 = .ok (.iload 5, 2) := by decide +kernel
theorem dX4_stir_80 : decode cX4_stir 80 = .ok (.bipush 26, 2) := by decide +kernel
theorem dX4_stir_82 : decode cX4_stir 82 = .ok (.ishl, 1) := by decide +kernel
theorem dX4_stir_83 : decode cX4_stir 83 = .ok (.ior, 1) := by decide +kernel
theorem dX4_stir_84 : decode cX4_stir 84 = .ok (.iload 5, 2) := by decide +kernel
theorem dX4_stir_86 : decode cX4_stir 86 = .ok (.bipush 11, 2) := by decide +kernel
theorem dX4_stir_88 : decode cX4_stir 88 = .ok (.iushr, 1) := by decide +kernel
theorem dX4_stir_89 : decode cX4_stir 89 = .ok (.iload 5, 2) := by decide +kernel
theorem dX4_stir_91 : decode cX4_stir 91 = .ok (.bipush 21, 2) := by decide +kernel
theorem dX4_stir_93 : decode cX4_stir 93 = .ok (.ishl, 1) := by decide +kernel
theorem dX4_stir_94 : decode cX4_stir 94 = .ok (.ior, 1) := by decide +kernel
theorem dX4_stir_95 : decode cX4_stir 95 = .ok (.ixor, 1) := by decide +kernel
theorem dX4_stir_96 : decode cX4_stir 96 = .ok (.iload 5, 2) := by decide +kernel
theorem dX4_stir_98 : decode cX4_stir 98 = .ok (.bipush 25, 2) := by decide +kernel
theorem dX4_stir_100 : decode cX4_stir 100 = .ok (.iushr, 1) := by decide +kernel
theorem dX4_stir_101 : decode cX4_stir 101 = .ok (.iload 5, 2) := by decide +kernel
theorem dX4_stir_103 : decode cX4_stir 103 = .ok (.bipush 7, 2) := by decide +kernel
theorem dX4_stir_105 : decode cX4_stir 105 = .ok (.ishl, 1) := by decide +kernel
theorem dX4_stir_106 : decode cX4_stir 106 = .ok (.ior, 1) := by decide +kernel
theorem dX4_stir_107 : decode cX4_stir 107 = .ok (.ixor, 1) := by decide +kernel
theorem dX4_stir_108 : decode cX4_stir 108 = .ok (.istore 10, 2) := by decide +kernel
theorem dX4_stir_110 : decode cX4_stir 110 = .ok (.iload_n 1, 1) := by decide +kernel
theorem dX4_stir_111 : decode cX4_stir 111 = .ok (.iconst 2, 1) := by decide +kernel
theorem dX4_stir_112 : decode cX4_stir 112 = .ok (.iushr, 1) := by decide +kernel
theorem dX4_stir_113 : decode cX4_stir 113 = .ok (.iload_n 1, 1) := by decide +kernel
theorem dX4_stir_114 : decode cX4_stir 114 = .ok (.bipush 30, 2) := by decide +kernel
theorem dX4_stir_116 : decode cX4_stir 116 = .ok (.ishl, 1) := by decide +kernel
theorem dX4_stir_117 : decode cX4_stir 117 = .ok (.ior, 1) := by decide +kernel
theorem dX4_stir_118 : decode cX4_stir 118 = .ok (.iload_n 1, 1) := by decide +kernel
theorem dX4_stir_119 : decode cX4_stir 119 = .ok (.bipush 13, 2) := by decide +kernel
theorem dX4_stir_121 : decode cX4_stir 121 = .ok (.iushr, 1) := by decide +kernel
theorem dX4_stir_122 : decode cX4_stir 122 = .ok (.iload_n 1, 1) := by decide +kernel
theorem dX4_stir_123 : decode cX4_stir 123 = .ok (.bipush 19, 2) := by decide +kernel
theorem dX4_stir_125 : decode cX4_stir 125 = .ok (.ishl, 1) := by decide +kernel
theorem dX4_stir_126 : decode cX4_stir 126 = .ok (.ior, 1) := by decide +kernel
theorem dX4_stir_127 : decode cX4_stir 127 = .ok (.ixor, 1) := by decide +kernel
theorem dX4_stir_128 : decode cX4_stir 128 = .ok (.iload_n 1, 1) := by decide +kernel
theorem dX4_stir_129 : decode cX4_stir 129 = .ok (.bipush 22, 2) := by decide +kernel
theorem dX4_stir_131 : decode cX4_stir 131 = .ok (.iushr, 1) := by decide +kernel
theorem dX4_stir_132 : decode cX4_stir 132 = .ok (.iload_n 1, 1) := by decide +kernel
theorem dX4_stir_133 : decode cX4_stir 133 = .ok (.bipush 10, 2) := by decide +kernel
theorem dX4_stir_135 : decode cX4_stir 135 = .ok (.ishl, 1) := by decide +kernel
theorem dX4_stir_136 : decode cX4_stir 136 = .ok (.ior, 1) := by decide +kernel
theorem dX4_stir_137 : decode cX4_stir 137 = .ok (.ixor, 1) := by decide +kernel
theorem dX4_stir_138 : decode cX4_stir 138 = .ok (.istore 11, 2) := by decide +kernel
theorem dX4_stir_140 : decode cX4_stir 140 = .ok (.iload 8, 2) := by decide +kernel
theorem dX4_stir_142 : decode cX4_stir 142 = .ok (.iload 10, 2) := by decide +kernel
theorem dX4_stir_144 : decode cX4_stir 144 = .ok (.iadd, 1) := by decide +kernel
theorem dX4_stir_145 : decode cX4_stir 145 = .ok (.iload 5, 2) := by decide +kernel
theorem dX4_stir_147 : decode cX4_stir 147 = .ok (.iload 6, 2) := by decide +kernel
theorem dX4_stir_149 : decode cX4_stir 149 = .ok (.iand, 1) := by decide +kernel
theorem dX4_stir_150 : decode cX4_stir 150 = .ok (.iload 5, 2) := by decide +kernel
theorem dX4_stir_152 : decode cX4_stir 152 = .ok (.iconst (-1), 1) := by decide +kernel
theorem dX4_stir_153 : decode cX4_stir 153 = .ok (.ixor, 1) := by decide +kernel
theorem dX4_stir_154 : decode cX4_stir 154 = .ok (.iload 7, 2) := by decide +kernel
theorem dX4_stir_156 : decode cX4_stir 156 = .ok (.iand, 1) := by decide +kernel
theorem dX4_stir_157 : decode cX4_stir 157 = .ok (.ixor, 1) := by decide +kernel
theorem dX4_stir_158 : decode cX4_stir 158 = .ok (.iadd, 1) := by decide +kernel
theorem dX4_stir_159 : decode cX4_stir 159 = .ok (.getstatic 47, 3) := by decide +kernel
theorem dX4_stir_162 : decode cX4_stir 162 = .ok (.iload 9, 2) := by decide +kernel
theorem dX4_stir_164 : decode cX4_stir 164 = .ok (.iaload, 1) := by decide +kernel
theorem dX4_stir_165 : decode cX4_stir 165 = .ok (.iadd, 1) := by decide +kernel
theorem dX4_stir_166 : decode cX4_stir 166 = .ok (.aload_n 0, 1) := by decide +kernel
theorem dX4_stir_167 : decode cX4_stir 167 = .ok (.getfield 13, 3) := by decide +kernel
theorem dX4_stir_170 : decode cX4_stir 170 = .ok (.iload 9, 2) := by decide +kernel
theorem dX4_stir_172 : decode cX4_stir 172 = .ok (.iaload, 1) := by decide +kernel
theorem dX4_stir_173 : decode cX4_stir 173 = .ok (.iadd, 1) := by decide +kernel
theorem dX4_stir_174 : decode cX4_stir 174 = .ok (.istore 12, 2) := by decide +kernel
theorem dX4_stir_176 : decode cX4_stir 176 = .ok (.iload 11, 2) := by decide +kernel
theorem dX4_stir_178 : decode cX4_stir 178 = .ok (.iload_n 1, 1) := by decide +kernel
theorem dX4_stir_179 : decode cX4_stir 179 = .ok (.iload_n 2, 1) := by decide +kernel
theorem dX4_stir_180 : decode cX4_stir 180 = .ok (.iand, 1) := by decide +kernel
theorem dX4_stir_181 : decode cX4_stir 181 = .ok (.iload_n 1, 1) := by decide +kernel
theorem dX4_stir_182 : decode cX4_stir 182 = .ok (.iload_n 3, 1) := by decide +kernel
theorem dX4_stir_183 : decode cX4_stir 183 = .ok (.iand, 1) := by decide +kernel
theorem dX4_stir_184 : decode cX4_stir 184 = .ok (.ixor, 1) := by decide +kernel
theorem dX4_stir_185 : decode cX4_stir 185 = .ok (.iload_n 2, 1) := by decide +kernel
theorem dX4_stir_186 : decode cX4_stir 186 = .ok (.iload_n 3, 1) := by decide +kernel
theorem dX4_stir_187 : decode cX4_stir 187 = .ok (.iand, 1) := by decide +kernel
theorem dX4_stir_188 : decode cX4_stir 188 = .ok (.ixor, 1) := by decide +kernel
theorem dX4_stir_189 : decode cX4_stir 189 = .ok (.iadd, 1) := by decide +kernel
theorem dX4_stir_190 : decode cX4_stir 190 = .ok (.istore 13, 2) := by decide +kernel
theorem dX4_stir_192 : decode cX4_stir 192 = .ok (.iload 7, 2) := by decide +kernel
theorem dX4_stir_194 : decode cX4_stir 194 = .ok (.istore 8, 2) := by decide +kernel
theorem dX4_stir_196 : decode cX4_stir 196 = .ok (.iload 6, 2) := by decide +kernel
theorem dX4_stir_198 : decode cX4_stir 198 = .ok (.istore 7, 2) := by decide +kernel
theorem dX4_stir_200 : decode cX4_stir 200 = .ok (.iload 5, 2) := by decide +kernel
theorem dX4_stir_202 : decode cX4_stir 202 = .ok (.istore 6, 2) := by decide +kernel
theorem dX4_stir_204 : decode cX4_stir 204 = .ok (.iload 4, 2) := by decide +kernel
theorem dX4_stir_206 : decode cX4_stir 206 = .ok (.iload 12, 2) := by decide +kernel
theorem dX4_stir_208 : decode cX4_stir 208 = .ok (.iadd, 1) := by decide +kernel
theorem dX4_stir_209 : decode cX4_stir 209 = .ok (.istore 5, 2) := by decide +kernel
theorem dX4_stir_211 : decode cX4_stir 211 = .ok (.iload_n 3, 1) := by decide +kernel
theorem dX4_stir_212 : decode cX4_stir 212 = .ok (.istore 4, 2) := by decide +kernel
theorem dX4_stir_214 : decode cX4_stir 214 = .ok (.iload_n 2, 1) := by decide +kernel
theorem dX4_stir_215 : decode cX4_stir 215 = .ok (.istore_n 3, 1) := by decide +kernel
theorem dX4_stir_216 : decode cX4_stir 216 = .ok (.iload_n 1, 1) := by decide +kernel
theorem dX4_stir_217 : decode cX4_stir 217 = .ok (.istore_n 2, 1) := by decide +kernel
theorem dX4_stir_218 : decode cX4_stir 218 = .ok (.iload 12, 2) := by decide +kernel
theorem dX4_stir_220 : decode cX4_stir 220 = .ok (.iload 13, 2) := by decide +kernel
theorem dX4_stir_222 : decode cX4_stir 222 = .ok (.iadd, 1) := by decide +kernel
theorem dX4_stir_223 : decode cX4_stir 223 = .ok (.istore_n 1, 1) := by decide +kernel
theorem dX4_stir_224 : decode cX4_stir 224 = .ok (.iinc 9 1, 3) := by decide +kernel
theorem dX4_stir_227 : decode cX4_stir 227 = .ok (.goto (-161), 3) := by decide +kernel
theorem dX4_stir_230 : decode cX4_stir 230 = .ok (.aload_n 0, 1) := by decide +kernel
theorem dX4_stir_231 : decode cX4_stir 231 = .ok (.getfield 7, 3) := by decide +kernel
theorem dX4_stir_234 : decode cX4_stir 234 = .ok (.iconst 0, 1) := by decide +kernel
theorem dX4_stir_235 : decode cX4_stir 235 = .ok (.dup2, 1) := by decide +kernel
theorem dX4_stir_236 : decode cX4_stir 236 = .ok (.iaload, 1) := by decide +kernel
theorem dX4_stir_237 : decode cX4_stir 237 = .ok (.iload_n 1, 1) := by decide +kernel
theorem dX4_stir_238 : decode cX4_stir 238 = .ok (.iadd, 1) := by decide +kernel
theorem dX4_stir_239 : decode cX4_stir 239 = .ok (.iastore, 1) := by decide +kernel
theorem dX4_stir_240 : decode cX4_stir 240 = .ok (.aload_n 0, 1) := by decide +kernel
theorem dX4_stir_241 : decode cX4_stir 241 = .ok (.getfield 7, 3) := by decide +kernel
theorem dX4_stir_244 : decode cX4_stir 244 = .ok (.iconst 1, 1) := by decide +kernel
theorem dX4_stir_245 : decode cX4_stir 245 = .ok (.dup2, 1) := by decide +kernel
theorem dX4_stir_246 : decode cX4_stir 246 = .ok (.iaload, 1) := by decide +kernel
theorem dX4_stir_247 : decode cX4_stir 247 = .ok (.iload_n 2, 1) := by decide +kernel
theorem dX4_stir_248 : decode cX4_stir 248 = .ok (.iadd, 1) := by decide +kernel
theorem dX4_stir_249 : decode cX4_stir 249 = .ok (.iastore, 1) := by decide +kernel
theorem dX4_stir_250 : decode cX4_stir 250 = .ok (.aload_n 0, 1) := by decide +kernel
theorem dX4_stir_251 : decode cX4_stir 251 = .ok (.getfield 7, 3) := by decide +kernel
theorem dX4_stir_254 : decode cX4_stir 254 = .ok (.iconst 2, 1) := by decide +kernel
theorem dX4_stir_255 : decode cX4_stir 255 = .ok (.dup2, 1) := by decide +kernel
theorem dX4_stir_256 : decode cX4_stir 256 = .ok (.iaload, 1) := by decide +kernel
theorem dX4_stir_257 : decode cX4_stir 257 = .ok (.iload_n 3, 1) := by decide +kernel
theorem dX4_stir_258 : decode cX4_stir 258 = .ok (.iadd, 1) := by decide +kernel
theorem dX4_stir_259 : decode cX4_stir 259 = .ok (.iastore, 1) := by decide +kernel
theorem dX4_stir_260 : decode cX4_stir 260 = .ok (.aload_n 0, 1) := by decide +kernel
theorem dX4_stir_261 : decode cX4_stir 261 = .ok (.getfield 7, 3) := by decide +kernel
theorem dX4_stir_264 : decode cX4_stir 264 = .ok (.iconst 3, 1) := by decide +kernel
theorem dX4_stir_265 : decode cX4_stir 265 = .ok (.dup2, 1) := by decide +kernel
theorem dX4_stir_266 : decode cX4_stir 266 = .ok (.iaload, 1) := by decide +kernel
theorem dX4_stir_267 : decode cX4_stir 267 = .ok (.iload 4, 2) := by decide +kernel
theorem dX4_stir_269 : decode cX4_stir 269 = .ok (.iadd, 1) := by decide +kernel
theorem dX4_stir_270 : decode cX4_stir 270 = .ok (.iastore, 1) := by decide +kernel
theorem dX4_stir_271 : decode cX4_stir 271 = .ok (.aload_n 0, 1) := by decide +kernel
theorem dX4_stir_272 : decode cX4_stir 272 = .ok (.getfield 7, 3) := by decide +kernel
theorem dX4_stir_275 : decode cX4_stir 275 = .ok (.iconst 4, 1) := by decide +kernel
theorem dX4_stir_276 : decode cX4_stir 276 = .ok (.dup2, 1) := by decide +kernel
theorem dX4_stir_277 : decode cX4_stir 277 = .ok (.iaload, 1) := by decide +kernel
theorem dX4_stir_278 : decode cX4_stir 278 = .ok (.iload 5, 2) := by decide +kernel
theorem dX4_stir_280 : decode cX4_stir 280 = .ok (.iadd, 1) := by decide +kernel
theorem dX4_stir_281 : decode cX4_stir 281 = .ok (.iastore, 1) := by decide +kernel
theorem dX4_stir_282 : decode cX4_stir 282 = .ok (.aload_n 0, 1) := by decide +kernel
theorem dX4_stir_283 : decode cX4_stir 283 = .ok (.getfield 7, 3) := by decide +kernel
theorem dX4_stir_286 : decode cX4_stir 286 = .ok (.iconst 5, 1) := by decide +kernel
theorem dX4_stir_287 : decode cX4_stir 287 = .ok (.dup2, 1) := by decide +kernel
theorem dX4_stir_288 : decode cX4_stir 288 = .ok (.iaload, 1) := by decide +kernel
theorem dX4_stir_289 : decode cX4_stir 289 = .ok (.iload 6, 2) := by decide +kernel
theorem dX4_stir_291 : decode cX4_stir 291 = .ok (.iadd, 1) := by decide +kernel
theorem dX4_stir_292 : decode cX4_stir 292 = .ok (.iastore, 1) := by decide +kernel
theorem dX4_stir_293 : decode cX4_stir 293 = .ok (.aload_n 0, 1) := by decide +kernel
theorem dX4_stir_294 : decode cX4_stir 294 = .ok (.getfield 7, 3) := by decide +kernel
theorem dX4_stir_297 : decode cX4_stir 297 = .ok (.bipush 6, 2) := by decide +kernel
theorem dX4_stir_299 : decode cX4_stir 299 = .ok (.dup2, 1) := by decide +kernel
theorem dX4_stir_300 : decode cX4_stir 300 = .ok (.iaload, 1) := by decide +kernel
theorem dX4_stir_301 : decode cX4_stir 301 = .ok (.iload 7, 2) := by decide +kernel
theorem dX4_stir_303 : decode cX4_stir 303 = .ok (.iadd, 1) := by decide +kernel
theorem dX4_stir_304 : decode cX4_stir 304 = .ok (.iastore, 1) := by decide +kernel
theorem dX4_stir_305 : decode cX4_stir 305 = .ok (.aload_n 0, 1) := by decide +kernel
theorem dX4_stir_306 : decode cX4_stir 306 = .ok (.getfield 7, 3) := by decide +kernel
theorem dX4_stir_309 : decode cX4_stir 309 = .ok (.bipush 7, 2) := by decide +kernel
theorem dX4_stir_311 : decode cX4_stir 311 = .ok (.dup2, 1) := by decide +kernel
theorem dX4_stir_312 : decode cX4_stir 312 = .ok (.iaload, 1) := by decide +kernel
theorem dX4_stir_313 : decode cX4_stir 313 = .ok (.iload 8, 2) := by decide +kernel
theorem dX4_stir_315 : decode cX4_stir 315 = .ok (.iadd, 1) := by decide +kernel
theorem dX4_stir_316 : decode cX4_stir 316 = .ok (.iastore, 1) := by decide +kernel
theorem dX4_stir_317 : decode cX4_stir 317 = .ok (.return_, 1) := by decide +kernel
set_option maxRecDepth 20000 in
theorem ggX4_digest_X7_addNumber : GoodIn wsX4_digest wsX7_addNumber := goodIn_r _ [11, 12, 13, 29, 30] (by decide +kernel) (by decide +kernel)
set_option maxRecDepth 20000 in
theorem gX4_digest_X7_addNumber : GoodIn wsX4_digest (wsV RX4 26 RX7 yX7_addNumber wsX7_addNumber) := goodIn_app (goodIn_of _ (by decide +kernel)) ggX4_digest_X7_addNumber
set_option maxRecDepth 20000 in
theorem ggX4_digest_X4_spread : GoodIn wsX4_digest wsX4_spread := goodIn_r _ [18, 19, 31, 32] (by decide +kernel) (by decide +kernel)
set_option maxRecDepth 20000 in
theorem gX4_digest_X4_spread : GoodIn wsX4_digest (wsV RX4 37 RX4 yX4_spread wsX4_spread) := goodIn_app (goodIn_of _ (by decide +kernel)) ggX4_digest_X4_spread
set_option maxRecDepth 20000 in
theorem ggX4_digest_X4_stir : GoodIn wsX4_digest wsX4_stir := goodIn_r _ [23, 4, 24, 19, 31, 32] (by decide +kernel) (by decide +kernel)
set_option maxRecDepth 20000 in
theorem gX4_digest_X4_stir : GoodIn wsX4_digest (wsV RX4 41 RX4 yX4_stir wsX4_stir) := goodIn_app (goodIn_of _ (by decide +kernel)) ggX4_digest_X4_stir
set_option maxRecDepth 20000 in
theorem ggX4_digest_X7_clear : GoodIn wsX4_digest wsX7_clear := goodIn_r _ [28, 12, 29, 30] (by decide +kernel) (by decide +kernel)
set_option maxRecDepth 20000 in
theorem gX4_digest_X7_clear : GoodIn wsX4_digest (wsV RX4 44 RX7 yX7_clear wsX7_clear) := goodIn_app (goodIn_of _ (by decide +kernel)) ggX4_digest_X7_clear
theorem dX4_digest_0 : decode cX4_digest 0 = .ok (.ldc2_w 16, 3) := by decide +kernel
theorem dX4_digest_3 : decode cX4_digest 3 = .ok (.aload_n 1, 1) := by decide +kernel
theorem dX4_digest_4 : decode cX4_digest 4 = .ok (.getfield 18, 3) := by decide +kernel
theorem dX4_digest_7 : decode cX4_digest 7 = .ok (.i2l, 1) := by decide +kernel
theorem dX4_digest_8 : decode cX4_digest 8 = .ok (.lmul, 1) := by decide +kernel
theorem dX4_digest_9 : decode cX4_digest 9 = .ok (.lstore_n 3, 1) := by decide +kernel
theorem dX4_digest_10 : decode cX4_digest 10 = .ok (.aload_n 1, 1) := by decide +kernel
theorem dX4_digest_11 : decode cX4_digest 11 = .ok (.ldc2_w 24, 3) := by decide +kernel
theorem dX4_digest_14 : decode cX4_digest 14 = .ok (.iconst 1, 1) := by decide +kernel
theorem dX4_digest_15 : decode cX4_digest 15 = .ok (.invokevirtual 26, 3) := by decide +kernel
theorem dX4_digest_18 : decode cX4_digest 18 = .ok (.aload_n 1, 1) := by decide +kernel
theorem dX4_digest_19 : decode cX4_digest 19 = .ok (.lconst 0, 1) := by decide +kernel
theorem dX4_digest_20 : decode cX4_digest 20 = .ok (.bipush 120, 2) := by decide +kernel
theorem dX4_digest_22 : decode cX4_digest 22 = .ok (.aload_n 1, 1) := by decide +kernel
theorem dX4_digest_23 : decode cX4_digest 23 = .ok (.getfield 18, 3) := by decide +kernel
theorem dX4_digest_26 : decode cX4_digest 26 = .ok (.bipush 64, 2) := by decide +kernel
theorem dX4_digest_28 : decode cX4_digest 28 = .ok (.irem, 1) := by decide +kernel
theorem dX4_digest_29 : decode cX4_digest 29 = .ok (.isub, 1) := by decide +kernel
theorem dX4_digest_30 : decode cX4_digest 30 = .ok (.bipush 64, 2) := by decide +kernel
theorem dX4_digest_32 : decode cX4_digest 32 = .ok (.irem, 1) := by decide +kernel
theorem dX4_digest_33 : decode cX4_digest 33 = .ok (.invokevirtual 26, 3) := by decide +kernel
theorem dX4_digest_36 : decode cX4_digest 36 = .ok (.aload_n 1, 1) := by decide +kernel
theorem dX4_digest_37 : decode cX4_digest 37 = .ok (.lload_n 3, 1) := by decide +kernel
theorem dX4_digest_38 : decode cX4_digest 38 = .ok (.bipush 8, 2) := by decide +kernel
theorem dX4_digest_40 : decode cX4_digest 40 = .ok (.invokevirtual 26, 3) := by decide +kernel
theorem dX4_digest_43 : decode cX4_digest 43 = .ok (.iconst 0, 1) := by decide +kernel
theorem dX4_digest_44 : decode cX4_digest 44 = .ok (.istore 5, 2) := by decide +kernel
theorem dX4_digest_46 : decode cX4_digest 46 = .ok (.iload 5, 2) := by decide +kernel
theorem dX4_digest_48 : decode cX4_digest 48 = .ok (.bipush 8, 2) := by decide +kernel
theorem dX4_digest_50 : decode cX4_digest 50 = .ok (.if_icmp .ge 22, 3) := by decide +kernel
theorem dX4_digest_53 : decode cX4_digest 53 = .ok (.aload_n 0, 1) := by decide +kernel
theorem dX4_digest_54 : decode cX4_digest 54 = .ok (.getfield 7, 3) := by decide +kernel
theorem dX4_digest_57 : decode cX4_digest 57 = .ok (.iload 5, 2) := by decide +kernel
theorem dX4_digest_59 : decode cX4_digest 59 = .ok (.getstatic 30, 3) := by decide +kernel
theorem dX4_digest_62 : decode cX4_digest 62 = .ok (.iload 5, 2) := by decide +kernel
theorem dX4_digest_64 : decode cX4_digest 64 = .ok (.iaload, 1) := by decide +kernel
theorem dX4_digest_65 : decode cX4_digest 65 = .ok (.iastore, 1) := by decide +kernel
theorem dX4_digest_66 : decode cX4_digest 66 = .ok (.iinc 5 1, 3) := by decide +kernel
theorem dX4_digest_69 : decode cX4_digest 69 = .ok (.goto (-23), 3) := by decide +kernel
theorem dX4_digest_72 : decode cX4_digest 72 = .ok (.iconst 0, 1) := by decide +kernel
theorem dX4_digest_73 : decode cX4_digest 73 = .ok (.istore 5, 2) := by decide +kernel
theorem dX4_digest_75 : decode cX4_digest 75 = .ok (.iload 5, 2) := by decide +kernel
theorem dX4_digest_77 : decode cX4_digest 77 = .ok (.bipush 64, 2) := by decide +kernel
theorem dX4_digest_79 : decode cX4_digest 79 = .ok (.iadd, 1) := by decide +kernel
theorem dX4_digest_80 : decode cX4_digest 80 = .ok (.aload_n 1, 1) := by decide +kernel
theorem dX4_digest_81 : decode cX4_digest 81 = .ok (.getfield 18, 3) := by decide +kernel
theorem dX4_digest_84 : decode cX4_digest 84 = .ok (.if_icmp .gt 23, 3) := by decide +kernel
theorem dX4_digest_87 : decode cX4_digest 87 = .ok (.aload_n 0, 1) := by decide +kernel
theorem dX4_digest_88 : decode cX4_digest 88 = .ok (.aload_n 1, 1) := by decide +kernel
theorem dX4_digest_89 : decode cX4_digest 89 = .ok (.getfield 33, 3) := by decide +kernel
theorem dX4_digest_92 : decode cX4_digest 92 = .ok (.iload 5, 2) := by decide +kernel
theorem dX4_digest_94 : decode cX4_digest 94 = .ok (.invokevirtual 37, 3) := by decide +kernel
theorem dX4_digest_97 : decode cX4_digest 97 = .ok (.aload_n 0, 1) := by decide +kernel
theorem dX4_digest_98 : decode cX4_digest 98 = .ok (.invokevirtual 41, 3) := by decide +kernel
theorem dX4_digest_101 : decode cX4_digest 101 = .ok (.iinc 5 64, 3) := by decide +kernel
theorem dX4_digest_104 : decode cX4_digest 104 = .ok (.goto (-29), 3) := by decide +kernel
theorem dX4_digest_107 : decode cX4_digest 107 = .ok (.aload_n 2, 1) := by decide +kernel
theorem dX4_digest_108 : decode cX4_digest 108 = .ok (.invokevirtual 44, 3) := by decide +kernel
theorem dX4_digest_111 : decode cX4_digest 111 = .ok (.iconst 0, 1) := by decide +kernel
theorem dX4_digest_112 : decode cX4_digest 112 = .ok (.istore 5, 2) := by decide +kernel
theorem dX4_digest_114 : decode cX4_digest 114 = .ok (.iload 5, 2) := by decide +kernel
theorem dX4_digest_116 : decode cX4_digest 116 = .ok (.bipush 8, 2) := by decide +kernel
theorem dX4_digest_118 : decode cX4_digest 118 = .ok (.if_icmp .ge 22, 3) := by decide +kernel
theorem dX4_digest_121 : decode cX4_digest 121 = .ok (.aload_n 2, 1) := by decide +kernel
theorem dX4_digest_122 : decode cX4_digest 122 = .ok (.aload_n 0, 1) := by decide +kernel
theorem dX4_digest_123 : decode cX4_digest 123 = .ok (.getfield 7, 3) := by decide +kernel
theorem dX4_digest_126 : decode cX4_digest 126 = .ok (.iload 5, 2) := by decide +kernel
theorem dX4_digest_128 : decode cX4_digest 128 = .ok (.iaload, 1) := by decide +kernel
theorem dX4_digest_129 : decode cX4_digest 129 = .ok (.i2l, 1) := by decide +kernel
theorem dX4_digest_130 : decode cX4_digest 130 = .ok (.iconst 4, 1) := by decide +kernel
theorem dX4_digest_131 : decode cX4_digest 131 = .ok (.invokevirtual 26, 3) := by decide +kernel
theorem dX4_digest_134 : decode cX4_digest 134 = .ok (.iinc 5 1, 3) := by decide +kernel
theorem dX4_digest_137 : decode cX4_digest 137 = .ok (.goto (-23), 3) := by decide +kernel
theorem dX4_digest_140 : decode cX4_digest 140 = .ok (.return_, 1) := by decide +kernel
set_option maxHeartbeats 1000000 in
set_option maxRecDepth 100000 in
/-- HashZero.spread -/
theorem c_spread (l : Launch) (g : jG) (z : Nat) (sa : Nat) (wa : Nat) (ba : Nat) (bc : Nat) (w : Nat → Int32) (f : Nat → Int32) (t : Nat) (ht : t + 64 ≤ bc) (hb : bc < 2 ^ 31) : jC l g yX4_spread wsX4_spread ({ frames := 0, cells := 0, slots := 0, locals := 0 } : Room) [.ref z, .ref ba, .int (nI t)] [oB z 4 [.ref sa, .ref wa], iA g wa 64 w, bA g ba bc f] (fun u : (Nat → Int32) => none) (fun u : (Nat → Int32) => u = putL w 0 (Wl f t 64)) (fun u : (Nat → Int32) => [oB z 4 [.ref sa, .ref wa], iA g wa 64 u, bA g ba bc f]) := by
  refine jC.of (cc := cX4_spread) (own := RX4) (maxL := 8) (ret := none) (by decide +kernel) rfl rfl (Nat.le_of_ble_eq_true rfl) (fun u hu => rfl) ?_
  intro p e s m below meth c A Q hX hret
  have in4 : ∀ w ∈ wsX40, w ∈ wsX4_spread := (fun w h => List.mem_cons_of_mem _ (List.mem_append_right _ h))
  refine j_iconst hX (0) dX4_spread_0 (by decide) ?_
  refine j_st [.int (nI 0)] rfl ?_
  refine j_istore_n hX 3 [(3, .int (nI 0)), (0, .ref z), (1, .ref ba), (2, .int (nI t))] dX4_spread_1 rfl (by decide) rfl ?_
  have lp_1 : ∀ (n_2 : Nat) (i : Nat) (G : Nat → Int32), (16 - i < n_2) → (i ≤ 16) → (G = putL w 0 (Wl f t i)) → J p l e ({ frames := 0, cells := 0, slots := 0, locals := 0 } : Room) s m ([.ref z, .ref ba, .int (nI t)] : List Value).toArray below meth c g A 8 Q 0 0 [oB z 4 [.ref sa, .ref wa], iA g wa 64 G, bA g ba bc f] [(0, .ref z), (1, .ref ba), (2, .int (nI t)), (3, .int (nI i))] 2 [] := by
    intro n_2
    induction n_2 with
    | zero => intro i G hm; exact absurd hm (Nat.not_lt_zero _)
    | succ n_2 ih_3 =>
      intro i G hm hi hG
      refine j_iload_n hX 3 dX4_spread_2 rfl ?_
      refine j_bipush hX (16) dX4_spread_3 (by decide) ?_
      refine j_icmp_geN hX i 16 73 dX4_spread_5 (by decide) (by omega) (by omega) (fun b_5 => ?_) (fun b_5 => ?_)
      · skip
        refine j_bipush hX (16) dX4_spread_73 (by decide) ?_
        refine j_st [.int (nI 16)] rfl ?_
        refine j_istore_n hX 3 [(3, .int (nI 16)), (0, .ref z), (1, .ref ba), (2, .int (nI t))] dX4_spread_75 rfl (by decide) rfl ?_
        have lp_4 : ∀ (n_5 : Nat) (i : Nat) (G : Nat → Int32), (64 - i < n_5) → (i ≤ 64) → (16 ≤ i) → (G = putL w 0 (Wl f t i)) → J p l e ({ frames := 0, cells := 0, slots := 0, locals := 0 } : Room) s m ([.ref z, .ref ba, .int (nI t)] : List Value).toArray below meth c g A 8 Q 0 0 [oB z 4 [.ref sa, .ref wa], iA g wa 64 G, bA g ba bc f] [(0, .ref z), (1, .ref ba), (2, .int (nI t)), (3, .int (nI i))] 76 [] := by
          intro n_5
          induction n_5 with
          | zero => intro i G hm; exact absurd hm (Nat.not_lt_zero _)
          | succ n_5 ih_6 =>
            intro i G hm hi hi2 hG
            refine j_pc 76 rfl ?_
            refine j_iload_n hX 3 dX4_spread_76 rfl ?_
            refine j_bipush hX (64) dX4_spread_77 (by decide) ?_
            refine j_icmp_geN hX i 64 201 dX4_spread_79 (by decide) (by omega) (by omega) (fun b_79 => ?_) (fun b_79 => ?_)
            · skip
              exact hret G (by rw [hG, show i = 64 by omega]) 201 _ .return_ dX4_spread_201 rfl
            · skip
              refine j_aload_n hX 0 dX4_spread_82 rfl ?_
              refine j_get hX in4 4 0 1 (v := .ref wa) rfl rfl (by decide) (List.mem_of_getElem? (i := 1) rfl) rfl rfl dX4_spread_83 ?_
              refine j_iload_n hX 3 dX4_spread_86 rfl ?_
              refine j_bipush hX (15) dX4_spread_87 (by decide) ?_
              refine j_pc 89 rfl ?_
              refine j_isubN hX i 15 (by omega) dX4_spread_89 ?_
              refine j_ialdN hX 1 (i - 15) rfl (by omega) (by omega) dX4_spread_90 ?_
              refine j_istore hX [(4, .int (G (i - 15))), (0, .ref z), (1, .ref ba), (2, .int (nI t)), (3, .int (nI i))] dX4_spread_91 (by decide) rfl ?_
              refine j_aload_n hX 1 dX4_spread_93 rfl ?_
              refine j_get hX in4 4 0 1 (v := .ref wa) rfl rfl (by decide) (List.mem_of_getElem? (i := 1) rfl) rfl rfl dX4_spread_94 ?_
              refine j_iload_n hX 4 dX4_spread_97 rfl ?_
              refine j_iconst hX (2) dX4_spread_98 (by decide) ?_
              refine j_isubN hX i 2 (by omega) dX4_spread_99 ?_
              refine j_pc 100 rfl ?_
              refine j_ialdN hX 1 (i - 2) rfl (by omega) (by omega) dX4_spread_100 ?_
              refine j_istore hX [(5, .int (G (i - 2))), (4, .int (G (i - 15))), (0, .ref z), (1, .ref ba), (2, .int (nI t)), (3, .int (nI i))] dX4_spread_101 (by decide) rfl ?_
              refine j_iload hX 1 dX4_spread_103 rfl ?_
              refine j_bipush hX (7) dX4_spread_105 (by decide) ?_
              refine j_iushr hX dX4_spread_107 ?_
              refine j_iload hX 1 dX4_spread_108 rfl ?_
              refine j_bipush hX (25) dX4_spread_110 (by decide) ?_
              refine j_ishl hX dX4_spread_112 ?_
              refine j_pc 113 rfl ?_
              refine j_ior hX dX4_spread_113 ?_
              refine j_topeq _ (ror (G (i - 15)) 7) rfl ?_
              refine j_iload hX 1 dX4_spread_114 rfl ?_
              refine j_bipush hX (18) dX4_spread_116 (by decide) ?_
              refine j_iushr hX dX4_spread_118 ?_
              refine j_iload hX 1 dX4_spread_119 rfl ?_
              refine j_bipush hX (14) dX4_spread_121 (by decide) ?_
              refine j_ishl hX dX4_spread_123 ?_
              refine j_ior hX dX4_spread_124 ?_
              refine j_topeq _ (ror (G (i - 15)) 18) rfl ?_
              refine j_pc 125 rfl ?_
              refine j_ixor hX dX4_spread_125 ?_
              refine j_iload hX 1 dX4_spread_126 rfl ?_
              refine j_iconst hX (3) dX4_spread_128 (by decide) ?_
              refine j_iushr hX dX4_spread_129 ?_
              refine j_ixor hX dX4_spread_130 ?_
              refine j_istore hX [(6, .int (((ror (G (i - 15)) 7) ^^^ (ror (G (i - 15)) 18)) ^^^ (iush (G (i - 15)) 3))), (5, .int (G (i - 2))), (4, .int (G (i - 15))), (0, .ref z), (1, .ref ba), (2, .int (nI t)), (3, .int (nI i))] dX4_spread_131 (by decide) rfl ?_
              refine j_iload hX 1 dX4_spread_133 rfl ?_
              refine j_bipush hX (17) dX4_spread_135 (by decide) ?_
              refine j_pc 137 rfl ?_
              refine j_iushr hX dX4_spread_137 ?_
              refine j_iload hX 1 dX4_spread_138 rfl ?_
              refine j_bipush hX (15) dX4_spread_140 (by decide) ?_
              refine j_ishl hX dX4_spread_142 ?_
              refine j_ior hX dX4_spread_143 ?_
              refine j_topeq _ (ror (G (i - 2)) 17) rfl ?_
              refine j_iload hX 1 dX4_spread_144 rfl ?_
              refine j_bipush hX (19) dX4_spread_146 (by decide) ?_
              refine j_iushr hX dX4_spread_148 ?_
              refine j_pc 149 rfl ?_
              refine j_iload hX 1 dX4_spread_149 rfl ?_
              refine j_bipush hX (13) dX4_spread_151 (by decide) ?_
              refine j_ishl hX dX4_spread_153 ?_
              refine j_ior hX dX4_spread_154 ?_
              refine j_topeq _ (ror (G (i - 2)) 19) rfl ?_
              refine j_ixor hX dX4_spread_155 ?_
              refine j_iload hX 1 dX4_spread_156 rfl ?_
              refine j_bipush hX (10) dX4_spread_158 (by decide) ?_
              refine j_iushr hX dX4_spread_160 ?_
              refine j_pc 161 rfl ?_
              refine j_ixor hX dX4_spread_161 ?_
              refine j_istore hX [(7, .int (((ror (G (i - 2)) 17) ^^^ (ror (G (i - 2)) 19)) ^^^ (iush (G (i - 2)) 10))), (6, .int (((ror (G (i - 15)) 7) ^^^ (ror (G (i - 15)) 18)) ^^^ (iush (G (i - 15)) 3))), (5, .int (G (i - 2))), (4, .int (G (i - 15))), (0, .ref z), (1, .ref ba), (2, .int (nI t)), (3, .int (nI i))] dX4_spread_162 (by decide) rfl ?_
              refine j_aload_n hX 4 dX4_spread_164 rfl ?_
              refine j_get hX in4 4 0 1 (v := .ref wa) rfl rfl (by decide) (List.mem_of_getElem? (i := 1) rfl) rfl rfl dX4_spread_165 ?_
              refine j_iload_n hX 7 dX4_spread_168 rfl ?_
              refine j_iload hX 0 dX4_spread_169 rfl ?_
              refine j_aload_n hX 4 dX4_spread_171 rfl ?_
              refine j_get hX in4 4 0 1 (v := .ref wa) rfl rfl (by decide) (List.mem_of_getElem? (i := 1) rfl) rfl rfl dX4_spread_172 ?_
              refine j_pc 175 rfl ?_
              refine j_iload_n hX 7 dX4_spread_175 rfl ?_
              refine j_bipush hX (7) dX4_spread_176 (by decide) ?_
              refine j_isubN hX i 7 (by omega) dX4_spread_178 ?_
              refine j_ialdN hX 1 (i - 7) rfl (by omega) (by omega) dX4_spread_179 ?_
              refine j_iadd hX dX4_spread_180 ?_
              refine j_iload hX 1 dX4_spread_181 rfl ?_
              refine j_iadd hX dX4_spread_183 ?_
              refine j_aload_n hX 4 dX4_spread_184 rfl ?_
              refine j_pc 185 rfl ?_
              refine j_get hX in4 4 0 1 (v := .ref wa) rfl rfl (by decide) (List.mem_of_getElem? (i := 1) rfl) rfl rfl dX4_spread_185 ?_
              refine j_iload_n hX 7 dX4_spread_188 rfl ?_
              refine j_bipush hX (16) dX4_spread_189 (by decide) ?_
              refine j_isubN hX i 16 (by omega) dX4_spread_191 ?_
              refine j_ialdN hX 1 (i - 16) rfl (by omega) (by omega) dX4_spread_192 ?_
              refine j_iadd hX dX4_spread_193 ?_
              refine j_iastN hX 1 i rfl (by omega) (by omega) [oB z 4 [.ref sa, .ref wa], iA g wa 64 (upd G i ((((((ror (G (i - 2)) 17) ^^^ (ror (G (i - 2)) 19)) ^^^ (iush (G (i - 2)) 10)) + (G (i - 7))) + (((ror (G (i - 15)) 7) ^^^ (ror (G (i - 15)) 18)) ^^^ (iush (G (i - 15)) 3))) + (G (i - 16)))), bA g ba bc f] rfl dX4_spread_194 ?_
              refine j_iincN hX i (i + 1) [(3, .int (nI (i + 1))), (7, .int (((ror (G (i - 2)) 17) ^^^ (ror (G (i - 2)) 19)) ^^^ (iush (G (i - 2)) 10))), (6, .int (((ror (G (i - 15)) 7) ^^^ (ror (G (i - 15)) 18)) ^^^ (iush (G (i - 15)) 3))), (5, .int (G (i - 2))), (4, .int (G (i - 15))), (0, .ref z), (1, .ref ba), (2, .int (nI t))] 7 dX4_spread_195 rfl (nI_1 _) (by decide) rfl ?_
              refine j_pc 198 rfl ?_
              refine j_goto hX 76 dX4_spread_198 (by decide) ?_
              refine j_perm [(0, .ref z), (1, .ref ba), (2, .int (nI t)), (3, .int (nI (i + 1)))] [5, 6, 7, 0] rfl ?_
              exact ih_6 (i + 1) (upd G i ((((((ror (G (i - 2)) 17) ^^^ (ror (G (i - 2)) 19)) ^^^ (iush (G (i - 2)) 10)) + (G (i - 7))) + (((ror (G (i - 15)) 7) ^^^ (ror (G (i - 15)) 18)) ^^^ (iush (G (i - 15)) 3))) + (G (i - 16)))) (by omega) (by omega) (by omega) (W_step hG (by omega))
        refine j_perm [(0, .ref z), (1, .ref ba), (2, .int (nI t)), (3, .int (nI 16))] [1, 2, 3, 0] rfl ?_
        exact lp_4 _ 16 G (Nat.lt_succ_self _) (by omega) (by omega) (by rw [hG, show i = 16 by omega])
      · skip
        refine j_iload_n hX 2 dX4_spread_8 rfl ?_
        refine j_iconst hX (4) dX4_spread_9 (by decide) ?_
        refine j_iload_n hX 3 dX4_spread_10 rfl ?_
        refine j_imulN hX 4 i dX4_spread_11 ?_
        refine j_iaddN hX t (4 * i) dX4_spread_12 ?_
        refine j_istore hX [(4, .int (nI (t + (4 * i)))), (0, .ref z), (1, .ref ba), (2, .int (nI t)), (3, .int (nI i))] dX4_spread_13 (by decide) rfl ?_
        refine j_aload_n hX 1 dX4_spread_15 rfl ?_
        refine j_pc 16 rfl ?_
        refine j_get hX in4 4 0 1 (v := .ref wa) rfl rfl (by decide) (List.mem_of_getElem? (i := 1) rfl) rfl rfl dX4_spread_16 ?_
        refine j_iload_n hX 4 dX4_spread_19 rfl ?_
        refine j_aload_n hX 2 dX4_spread_20 rfl ?_
        refine j_iload hX 0 dX4_spread_21 rfl ?_
        refine j_baldN hX 2 (t + (4 * i)) rfl (by omega) (by omega) dX4_spread_23 ?_
        refine j_bipush hX (24) dX4_spread_24 (by decide) ?_
        refine j_ishl hX dX4_spread_26 ?_
        refine j_aload_n hX 2 dX4_spread_27 rfl ?_
        refine j_pc 28 rfl ?_
        refine j_iload hX 0 dX4_spread_28 rfl ?_
        refine j_iconst hX (1) dX4_spread_30 (by decide) ?_
        refine j_iaddN hX (t + (4 * i)) 1 dX4_spread_31 ?_
        refine j_baldN hX 2 ((t + (4 * i)) + 1) rfl (by omega) (by omega) dX4_spread_32 ?_
        refine j_sipush hX (255) dX4_spread_33 (by decide) ?_
        refine j_iand hX dX4_spread_36 ?_
        refine j_bipush hX (16) dX4_spread_37 (by decide) ?_
        refine j_ishl hX dX4_spread_39 ?_
        refine j_pc 40 rfl ?_
        refine j_ior hX dX4_spread_40 ?_
        refine j_aload_n hX 2 dX4_spread_41 rfl ?_
        refine j_iload hX 0 dX4_spread_42 rfl ?_
        refine j_iconst hX (2) dX4_spread_44 (by decide) ?_
        refine j_iaddN hX (t + (4 * i)) 2 dX4_spread_45 ?_
        refine j_baldN hX 2 ((t + (4 * i)) + 2) rfl (by omega) (by omega) dX4_spread_46 ?_
        refine j_sipush hX (255) dX4_spread_47 (by decide) ?_
        refine j_iand hX dX4_spread_50 ?_
        refine j_pc 51 rfl ?_
        refine j_bipush hX (8) dX4_spread_51 (by decide) ?_
        refine j_ishl hX dX4_spread_53 ?_
        refine j_ior hX dX4_spread_54 ?_
        refine j_aload_n hX 2 dX4_spread_55 rfl ?_
        refine j_iload hX 0 dX4_spread_56 rfl ?_
        refine j_iconst hX (3) dX4_spread_58 (by decide) ?_
        refine j_iaddN hX (t + (4 * i)) 3 dX4_spread_59 ?_
        refine j_baldN hX 2 ((t + (4 * i)) + 3) rfl (by omega) (by omega) dX4_spread_60 ?_
        refine j_pc 61 rfl ?_
        refine j_sipush hX (255) dX4_spread_61 (by decide) ?_
        refine j_iand hX dX4_spread_64 ?_
        refine j_ior hX dX4_spread_65 ?_
        refine j_iastN hX 1 i rfl (by omega) (by omega) [oB z 4 [.ref sa, .ref wa], iA g wa 64 (upd G i (((((f (t + (4 * i))) <<< (24 &&& 31)) ||| (((f ((t + (4 * i)) + 1)) &&& 255) <<< (16 &&& 31))) ||| (((f ((t + (4 * i)) + 2)) &&& 255) <<< (8 &&& 31))) ||| ((f ((t + (4 * i)) + 3)) &&& 255))), bA g ba bc f] rfl dX4_spread_66 ?_
        refine j_iincN hX i (i + 1) [(3, .int (nI (i + 1))), (4, .int (nI (t + (4 * i)))), (0, .ref z), (1, .ref ba), (2, .int (nI t))] 4 dX4_spread_67 rfl (nI_1 _) (by decide) rfl ?_
        refine j_goto hX 2 dX4_spread_70 (by decide) ?_
        refine j_perm [(0, .ref z), (1, .ref ba), (2, .int (nI t)), (3, .int (nI (i + 1)))] [2, 3, 4, 0] rfl ?_
        exact ih_3 (i + 1) (upd G i (((((f (t + (4 * i))) <<< (24 &&& 31)) ||| (((f ((t + (4 * i)) + 1)) &&& 255) <<< (16 &&& 31))) ||| (((f ((t + (4 * i)) + 2)) &&& 255) <<< (8 &&& 31))) ||| ((f ((t + (4 * i)) + 3)) &&& 255))) (by omega) (by omega) (W_lo hG (by omega))
  refine j_perm [(0, .ref z), (1, .ref ba), (2, .int (nI t)), (3, .int (nI 0))] [1, 2, 3, 0] rfl ?_
  exact lp_1 _ 0 w (Nat.lt_succ_self _) (by omega) (by rw [Wl, putL_nil])

set_option maxHeartbeats 1000000 in
set_option maxRecDepth 100000 in
/-- HashZero.stir -/
theorem c_stir (l : Launch) (g : jG) (z : Nat) (sa : Nat) (wa : Nat) (F : Nat → Int32) (w : Nat → Int32)  : jC l g yX4_stir wsX4_stir ({ frames := 0, cells := 0, slots := 0, locals := 0 } : Room) [.ref z] [oB z 4 [.ref sa, .ref wa], iA g sa 8 F, iA g wa 64 w] (fun u : (Nat → Int32) => none) (fun u : (Nat → Int32) => st8 u = add8 (st8 F) (rds w (st8 F) 64)) (fun u : (Nat → Int32) => [oB z 4 [.ref sa, .ref wa], iA g sa 8 u, iA g wa 64 w]) := by
  refine jC.of (cc := cX4_stir) (own := RX4) (maxL := 14) (ret := none) (by decide +kernel) rfl rfl (Nat.le_of_ble_eq_true rfl) (fun u hu => rfl) ?_
  intro p e s m below meth c A Q hX hret
  have in4 : ∀ w ∈ wsX40, w ∈ wsX4_stir := (fun w h => List.mem_cons_of_mem _ (List.mem_append_right _ h))
  refine j_aload_n hX 0 dX4_stir_0 rfl ?_
  refine j_get hX in4 4 0 0 (v := .ref sa) rfl rfl (by decide) (List.mem_of_getElem? (i := 1) rfl) rfl rfl dX4_stir_1 ?_
  refine j_iconst hX (0) dX4_stir_4 (by decide) ?_
  refine j_ialdN hX 1 0 rfl (by omega) (by omega) dX4_stir_5 ?_
  refine j_istore_n hX 1 [(1, .int (F 0)), (0, .ref z)] dX4_stir_6 rfl (by decide) rfl ?_
  refine j_aload_n hX 1 dX4_stir_7 rfl ?_
  refine j_get hX in4 4 0 0 (v := .ref sa) rfl rfl (by decide) (List.mem_of_getElem? (i := 1) rfl) rfl rfl dX4_stir_8 ?_
  refine j_pc 11 rfl ?_
  refine j_iconst hX (1) dX4_stir_11 (by decide) ?_
  refine j_ialdN hX 1 1 rfl (by omega) (by omega) dX4_stir_12 ?_
  refine j_istore_n hX 2 [(2, .int (F 1)), (1, .int (F 0)), (0, .ref z)] dX4_stir_13 rfl (by decide) rfl ?_
  refine j_aload_n hX 2 dX4_stir_14 rfl ?_
  refine j_get hX in4 4 0 0 (v := .ref sa) rfl rfl (by decide) (List.mem_of_getElem? (i := 1) rfl) rfl rfl dX4_stir_15 ?_
  refine j_iconst hX (2) dX4_stir_18 (by decide) ?_
  refine j_ialdN hX 1 2 rfl (by omega) (by omega) dX4_stir_19 ?_
  refine j_istore_n hX 3 [(3, .int (F 2)), (2, .int (F 1)), (1, .int (F 0)), (0, .ref z)] dX4_stir_20 rfl (by decide) rfl ?_
  refine j_pc 21 rfl ?_
  refine j_aload_n hX 3 dX4_stir_21 rfl ?_
  refine j_get hX in4 4 0 0 (v := .ref sa) rfl rfl (by decide) (List.mem_of_getElem? (i := 1) rfl) rfl rfl dX4_stir_22 ?_
  refine j_iconst hX (3) dX4_stir_25 (by decide) ?_
  refine j_ialdN hX 1 3 rfl (by omega) (by omega) dX4_stir_26 ?_
  refine j_istore hX [(4, .int (F 3)), (3, .int (F 2)), (2, .int (F 1)), (1, .int (F 0)), (0, .ref z)] dX4_stir_27 (by decide) rfl ?_
  refine j_aload_n hX 4 dX4_stir_29 rfl ?_
  refine j_get hX in4 4 0 0 (v := .ref sa) rfl rfl (by decide) (List.mem_of_getElem? (i := 1) rfl) rfl rfl dX4_stir_30 ?_
  refine j_iconst hX (4) dX4_stir_33 (by decide) ?_
  refine j_pc 34 rfl ?_
  refine j_ialdN hX 1 4 rfl (by omega) (by omega) dX4_stir_34 ?_
  refine j_istore hX [(5, .int (F 4)), (4, .int (F 3)), (3, .int (F 2)), (2, .int (F 1)), (1, .int (F 0)), (0, .ref z)] dX4_stir_35 (by decide) rfl ?_
  refine j_aload_n hX 5 dX4_stir_37 rfl ?_
  refine j_get hX in4 4 0 0 (v := .ref sa) rfl rfl (by decide) (List.mem_of_getElem? (i := 1) rfl) rfl rfl dX4_stir_38 ?_
  refine j_iconst hX (5) dX4_stir_41 (by decide) ?_
  refine j_ialdN hX 1 5 rfl (by omega) (by omega) dX4_stir_42 ?_
  refine j_istore hX [(6, .int (F 5)), (5, .int (F 4)), (4, .int (F 3)), (3, .int (F 2)), (2, .int (F 1)), (1, .int (F 0)), (0, .ref z)] dX4_stir_43 (by decide) rfl ?_
  refine j_aload_n hX 6 dX4_stir_45 rfl ?_
  refine j_pc 46 rfl ?_
  refine j_get hX in4 4 0 0 (v := .ref sa) rfl rfl (by decide) (List.mem_of_getElem? (i := 1) rfl) rfl rfl dX4_stir_46 ?_
  refine j_bipush hX (6) dX4_stir_49 (by decide) ?_
  refine j_ialdN hX 1 6 rfl (by omega) (by omega) dX4_stir_51 ?_
  refine j_istore hX [(7, .int (F 6)), (6, .int (F 5)), (5, .int (F 4)), (4, .int (F 3)), (3, .int (F 2)), (2, .int (F 1)), (1, .int (F 0)), (0, .ref z)] dX4_stir_52 (by decide) rfl ?_
  refine j_aload_n hX 7 dX4_stir_54 rfl ?_
  refine j_get hX in4 4 0 0 (v := .ref sa) rfl rfl (by decide) (List.mem_of_getElem? (i := 1) rfl) rfl rfl dX4_stir_55 ?_
  refine j_bipush hX (7) dX4_stir_58 (by decide) ?_
  refine j_ialdN hX 1 7 rfl (by omega) (by omega) dX4_stir_60 ?_
  refine j_pc 61 rfl ?_
  refine j_istore hX [(8, .int (F 7)), (7, .int (F 6)), (6, .int (F 5)), (5, .int (F 4)), (4, .int (F 3)), (3, .int (F 2)), (2, .int (F 1)), (1, .int (F 0)), (0, .ref z)] dX4_stir_61 (by decide) rfl ?_
  refine j_iconst hX (0) dX4_stir_63 (by decide) ?_
  refine j_st [.int (nI 0)] rfl ?_
  refine j_istore hX [(9, .int (nI 0)), (8, .int (F 7)), (7, .int (F 6)), (6, .int (F 5)), (5, .int (F 4)), (4, .int (F 3)), (3, .int (F 2)), (2, .int (F 1)), (1, .int (F 0)), (0, .ref z)] dX4_stir_64 (by decide) rfl ?_
  have lp_1 : ∀ (n_2 : Nat) (va : Int32) (vb : Int32) (vc : Int32) (vd : Int32) (ve : Int32) (vf : Int32) (vg : Int32) (vh : Int32) (i : Nat), (64 - i < n_2) → (i ≤ 64) → ((va, vb, vc, vd, ve, vf, vg, vh) = rds w (st8 F) i) → J p l e ({ frames := 0, cells := 0, slots := 0, locals := 0 } : Room) s m ([.ref z] : List Value).toArray below meth c g A 14 Q 0 0 [oB z 4 [.ref sa, .ref wa], iA g sa 8 F, iA g wa 64 w] [(0, .ref z), (1, .int va), (2, .int vb), (3, .int vc), (4, .int vd), (5, .int ve), (6, .int vf), (7, .int vg), (8, .int vh), (9, .int (nI i))] 66 [] := by
    intro n_2
    induction n_2 with
    | zero => intro va vb vc vd ve vf vg vh i hm; exact absurd hm (Nat.not_lt_zero _)
    | succ n_2 ih_3 =>
      intro va vb vc vd ve vf vg vh i hm hi hx
      refine j_iload hX 9 dX4_stir_66 rfl ?_
      refine j_bipush hX (64) dX4_stir_68 (by decide) ?_
      refine j_icmp_geN hX i 64 230 dX4_stir_70 (by decide) (by omega) (by omega) (fun b_70 => ?_) (fun b_70 => ?_)
      · skip
        refine j_aload_n hX 0 dX4_stir_230 rfl ?_
        refine j_get hX in4 4 0 0 (v := .ref sa) rfl rfl (by decide) (List.mem_of_getElem? (i := 1) rfl) rfl rfl dX4_stir_231 ?_
        refine j_pc 234 rfl ?_
        refine j_iconst hX (0) dX4_stir_234 (by decide) ?_
        refine j_dup2 hX dX4_stir_235 rfl rfl ?_
        refine j_ialdN hX 1 0 rfl (by omega) (by omega) dX4_stir_236 ?_
        refine j_iload_n hX 1 dX4_stir_237 rfl ?_
        refine j_iadd hX dX4_stir_238 ?_
        refine j_iastN hX 1 0 rfl (by omega) (by omega) [oB z 4 [.ref sa, .ref wa], iA g sa 8 (upd F 0 ((F 0) + va)), iA g wa 64 w] rfl dX4_stir_239 ?_
        obtain ⟨T0, eT0⟩ : ∃ z, z = upd F 0 ((F 0) + va) := ⟨_, rfl⟩
        refine j_w [oB z 4 [.ref sa, .ref wa], iA g sa 8 T0, iA g wa 64 w] (by rw [eT0]) ?_
        refine j_aload_n hX 0 dX4_stir_240 rfl ?_
        refine j_get hX in4 4 0 0 (v := .ref sa) rfl rfl (by decide) (List.mem_of_getElem? (i := 1) rfl) rfl rfl dX4_stir_241 ?_
        refine j_pc 244 rfl ?_
        refine j_iconst hX (1) dX4_stir_244 (by decide) ?_
        refine j_dup2 hX dX4_stir_245 rfl rfl ?_
        refine j_ialdN hX 1 1 rfl (by omega) (by omega) dX4_stir_246 ?_
        refine j_iload_n hX 2 dX4_stir_247 rfl ?_
        refine j_iadd hX dX4_stir_248 ?_
        refine j_iastN hX 1 1 rfl (by omega) (by omega) [oB z 4 [.ref sa, .ref wa], iA g sa 8 (upd T0 1 ((T0 1) + vb)), iA g wa 64 w] rfl dX4_stir_249 ?_
        obtain ⟨T1, eT1⟩ : ∃ z, z = upd T0 1 ((T0 1) + vb) := ⟨_, rfl⟩
        refine j_w [oB z 4 [.ref sa, .ref wa], iA g sa 8 T1, iA g wa 64 w] (by rw [eT1]) ?_
        refine j_aload_n hX 0 dX4_stir_250 rfl ?_
        refine j_get hX in4 4 0 0 (v := .ref sa) rfl rfl (by decide) (List.mem_of_getElem? (i := 1) rfl) rfl rfl dX4_stir_251 ?_
        refine j_pc 254 rfl ?_
        refine j_iconst hX (2) dX4_stir_254 (by decide) ?_
        refine j_dup2 hX dX4_stir_255 rfl rfl ?_
        refine j_ialdN hX 1 2 rfl (by omega) (by omega) dX4_stir_256 ?_
        refine j_iload_n hX 3 dX4_stir_257 rfl ?_
        refine j_iadd hX dX4_stir_258 ?_
        refine j_iastN hX 1 2 rfl (by omega) (by omega) [oB z 4 [.ref sa, .ref wa], iA g sa 8 (upd T1 2 ((T1 2) + vc)), iA g wa 64 w] rfl dX4_stir_259 ?_
        obtain ⟨T2, eT2⟩ : ∃ z, z = upd T1 2 ((T1 2) + vc) := ⟨_, rfl⟩
        refine j_w [oB z 4 [.ref sa, .ref wa], iA g sa 8 T2, iA g wa 64 w] (by rw [eT2]) ?_
        refine j_aload_n hX 0 dX4_stir_260 rfl ?_
        refine j_get hX in4 4 0 0 (v := .ref sa) rfl rfl (by decide) (List.mem_of_getElem? (i := 1) rfl) rfl rfl dX4_stir_261 ?_
        refine j_pc 264 rfl ?_
        refine j_iconst hX (3) dX4_stir_264 (by decide) ?_
        refine j_dup2 hX dX4_stir_265 rfl rfl ?_
        refine j_ialdN hX 1 3 rfl (by omega) (by omega) dX4_stir_266 ?_
        refine j_iload hX 4 dX4_stir_267 rfl ?_
        refine j_iadd hX dX4_stir_269 ?_
        refine j_iastN hX 1 3 rfl (by omega) (by omega) [oB z 4 [.ref sa, .ref wa], iA g sa 8 (upd T2 3 ((T2 3) + vd)), iA g wa 64 w] rfl dX4_stir_270 ?_
        obtain ⟨T3, eT3⟩ : ∃ z, z = upd T2 3 ((T2 3) + vd) := ⟨_, rfl⟩
        refine j_w [oB z 4 [.ref sa, .ref wa], iA g sa 8 T3, iA g wa 64 w] (by rw [eT3]) ?_
        refine j_aload_n hX 0 dX4_stir_271 rfl ?_
        refine j_get hX in4 4 0 0 (v := .ref sa) rfl rfl (by decide) (List.mem_of_getElem? (i := 1) rfl) rfl rfl dX4_stir_272 ?_
        refine j_pc 275 rfl ?_
        refine j_iconst hX (4) dX4_stir_275 (by decide) ?_
        refine j_dup2 hX dX4_stir_276 rfl rfl ?_
        refine j_ialdN hX 1 4 rfl (by omega) (by omega) dX4_stir_277 ?_
        refine j_iload hX 5 dX4_stir_278 rfl ?_
        refine j_iadd hX dX4_stir_280 ?_
        refine j_iastN hX 1 4 rfl (by omega) (by omega) [oB z 4 [.ref sa, .ref wa], iA g sa 8 (upd T3 4 ((T3 4) + ve)), iA g wa 64 w] rfl dX4_stir_281 ?_
        obtain ⟨T4, eT4⟩ : ∃ z, z = upd T3 4 ((T3 4) + ve) := ⟨_, rfl⟩
        refine j_w [oB z 4 [.ref sa, .ref wa], iA g sa 8 T4, iA g wa 64 w] (by rw [eT4]) ?_
        refine j_aload_n hX 0 dX4_stir_282 rfl ?_
        refine j_get hX in4 4 0 0 (v := .ref sa) rfl rfl (by decide) (List.mem_of_getElem? (i := 1) rfl) rfl rfl dX4_stir_283 ?_
        refine j_pc 286 rfl ?_
        refine j_iconst hX (5) dX4_stir_286 (by decide) ?_
        refine j_dup2 hX dX4_stir_287 rfl rfl ?_
        refine j_ialdN hX 1 5 rfl (by omega) (by omega) dX4_stir_288 ?_
        refine j_iload hX 6 dX4_stir_289 rfl ?_
        refine j_iadd hX dX4_stir_291 ?_
        refine j_iastN hX 1 5 rfl (by omega) (by omega) [oB z 4 [.ref sa, .ref wa], iA g sa 8 (upd T4 5 ((T4 5) + vf)), iA g wa 64 w] rfl dX4_stir_292 ?_
        obtain ⟨T5, eT5⟩ : ∃ z, z = upd T4 5 ((T4 5) + vf) := ⟨_, rfl⟩
        refine j_w [oB z 4 [.ref sa, .ref wa], iA g sa 8 T5, iA g wa 64 w] (by rw [eT5]) ?_
        refine j_aload_n hX 0 dX4_stir_293 rfl ?_
        refine j_get hX in4 4 0 0 (v := .ref sa) rfl rfl (by decide) (List.mem_of_getElem? (i := 1) rfl) rfl rfl dX4_stir_294 ?_
        refine j_pc 297 rfl ?_
        refine j_bipush hX (6) dX4_stir_297 (by decide) ?_
        refine j_dup2 hX dX4_stir_299 rfl rfl ?_
        refine j_ialdN hX 1 6 rfl (by omega) (by omega) dX4_stir_300 ?_
        refine j_iload hX 7 dX4_stir_301 rfl ?_
        refine j_iadd hX dX4_stir_303 ?_
        refine j_iastN hX 1 6 rfl (by omega) (by omega) [oB z 4 [.ref sa, .ref wa], iA g sa 8 (upd T5 6 ((T5 6) + vg)), iA g wa 64 w] rfl dX4_stir_304 ?_
        obtain ⟨T6, eT6⟩ : ∃ z, z = upd T5 6 ((T5 6) + vg) := ⟨_, rfl⟩
        refine j_w [oB z 4 [.ref sa, .ref wa], iA g sa 8 T6, iA g wa 64 w] (by rw [eT6]) ?_
        refine j_aload_n hX 0 dX4_stir_305 rfl ?_
        refine j_get hX in4 4 0 0 (v := .ref sa) rfl rfl (by decide) (List.mem_of_getElem? (i := 1) rfl) rfl rfl dX4_stir_306 ?_
        refine j_pc 309 rfl ?_
        refine j_bipush hX (7) dX4_stir_309 (by decide) ?_
        refine j_dup2 hX dX4_stir_311 rfl rfl ?_
        refine j_ialdN hX 1 7 rfl (by omega) (by omega) dX4_stir_312 ?_
        refine j_iload hX 8 dX4_stir_313 rfl ?_
        refine j_iadd hX dX4_stir_315 ?_
        refine j_iastN hX 1 7 rfl (by omega) (by omega) [oB z 4 [.ref sa, .ref wa], iA g sa 8 (upd T6 7 ((T6 7) + vh)), iA g wa 64 w] rfl dX4_stir_316 ?_
        obtain ⟨T7, eT7⟩ : ∃ z, z = upd T6 7 ((T6 7) + vh) := ⟨_, rfl⟩
        refine j_w [oB z 4 [.ref sa, .ref wa], iA g sa 8 T7, iA g wa 64 w] (by rw [eT7]) ?_
        exact hret T7 (by obtain rfl : i = 64 := (by omega); rw [← hx]; exact st8_chain eT0 eT1 eT2 eT3 eT4 eT5 eT6 eT7) 317 _ .return_ dX4_stir_317 rfl
      · skip
        refine j_iload hX 5 dX4_stir_73 rfl ?_
        refine j_pc 75 rfl ?_
        refine j_bipush hX (6) dX4_stir_75 (by decide) ?_
        refine j_iushr hX dX4_stir_77 ?_
        refine j_iload hX 5 dX4_stir_78 rfl ?_
        refine j_bipush hX (26) dX4_stir_80 (by decide) ?_
        refine j_ishl hX dX4_stir_82 ?_
        refine j_ior hX dX4_stir_83 ?_
        refine j_topeq _ (ror ve 6) rfl ?_
        refine j_iload hX 5 dX4_stir_84 rfl ?_
        refine j_bipush hX (11) dX4_stir_86 (by decide) ?_
        refine j_pc 88 rfl ?_
        refine j_iushr hX dX4_stir_88 ?_
        refine j_iload hX 5 dX4_stir_89 rfl ?_
        refine j_bipush hX (21) dX4_stir_91 (by decide) ?_
        refine j_ishl hX dX4_stir_93 ?_
        refine j_ior hX dX4_stir_94 ?_
        refine j_topeq _ (ror ve 11) rfl ?_
        refine j_ixor hX dX4_stir_95 ?_
        refine j_iload hX 5 dX4_stir_96 rfl ?_
        refine j_bipush hX (25) dX4_stir_98 (by decide) ?_
        refine j_pc 100 rfl ?_
        refine j_iushr hX dX4_stir_100 ?_
        refine j_iload hX 5 dX4_stir_101 rfl ?_
        refine j_bipush hX (7) dX4_stir_103 (by decide) ?_
        refine j_ishl hX dX4_stir_105 ?_
        refine j_ior hX dX4_stir_106 ?_
        refine j_topeq _ (ror ve 25) rfl ?_
        refine j_ixor hX dX4_stir_107 ?_
        refine j_istore hX [(10, .int (((ror ve 6) ^^^ (ror ve 11)) ^^^ (ror ve 25))), (0, .ref z), (1, .int va), (2, .int vb), (3, .int vc), (4, .int vd), (5, .int ve), (6, .int vf), (7, .int vg), (8, .int vh), (9, .int (nI i))] dX4_stir_108 (by decide) rfl ?_
        refine j_iload_n hX 2 dX4_stir_110 rfl ?_
        refine j_pc 111 rfl ?_
        refine j_iconst hX (2) dX4_stir_111 (by decide) ?_
        refine j_iushr hX dX4_stir_112 ?_
        refine j_iload_n hX 2 dX4_stir_113 rfl ?_
        refine j_bipush hX (30) dX4_stir_114 (by decide) ?_
        refine j_ishl hX dX4_stir_116 ?_
        refine j_ior hX dX4_stir_117 ?_
        refine j_topeq _ (ror va 2) rfl ?_
        refine j_iload_n hX 2 dX4_stir_118 rfl ?_
        refine j_bipush hX (13) dX4_stir_119 (by decide) ?_
        refine j_pc 121 rfl ?_
        refine j_iushr hX dX4_stir_121 ?_
        refine j_iload_n hX 2 dX4_stir_122 rfl ?_
        refine j_bipush hX (19) dX4_stir_123 (by decide) ?_
        refine j_ishl hX dX4_stir_125 ?_
        refine j_ior hX dX4_stir_126 ?_
        refine j_topeq _ (ror va 13) rfl ?_
        refine j_ixor hX dX4_stir_127 ?_
        refine j_iload_n hX 2 dX4_stir_128 rfl ?_
        refine j_bipush hX (22) dX4_stir_129 (by decide) ?_
        refine j_pc 131 rfl ?_
        refine j_iushr hX dX4_stir_131 ?_
        refine j_iload_n hX 2 dX4_stir_132 rfl ?_
        refine j_bipush hX (10) dX4_stir_133 (by decide) ?_
        refine j_ishl hX dX4_stir_135 ?_
        refine j_ior hX dX4_stir_136 ?_
        refine j_topeq _ (ror va 22) rfl ?_
        refine j_ixor hX dX4_stir_137 ?_
        refine j_istore hX [(11, .int (((ror va 2) ^^^ (ror va 13)) ^^^ (ror va 22))), (10, .int (((ror ve 6) ^^^ (ror ve 11)) ^^^ (ror ve 25))), (0, .ref z), (1, .int va), (2, .int vb), (3, .int vc), (4, .int vd), (5, .int ve), (6, .int vf), (7, .int vg), (8, .int vh), (9, .int (nI i))] dX4_stir_138 (by decide) rfl ?_
        refine j_iload hX 10 dX4_stir_140 rfl ?_
        refine j_pc 142 rfl ?_
        refine j_iload hX 1 dX4_stir_142 rfl ?_
        refine j_iadd hX dX4_stir_144 ?_
        refine j_iload hX 7 dX4_stir_145 rfl ?_
        refine j_iload hX 8 dX4_stir_147 rfl ?_
        refine j_iand hX dX4_stir_149 ?_
        refine j_iload hX 7 dX4_stir_150 rfl ?_
        refine j_iconst hX (-1) dX4_stir_152 (by decide) ?_
        refine j_ixor hX dX4_stir_153 ?_
        refine j_pc 154 rfl ?_
        refine j_iload hX 9 dX4_stir_154 rfl ?_
        refine j_iand hX dX4_stir_156 ?_
        refine j_ixor hX dX4_stir_157 ?_
        refine j_iadd hX dX4_stir_158 ?_
        refine j_gets hX hX.2.2.2.2.2.2.2.2 (List.mem_of_getElem? (i := 2) rfl) rfl dX4_stir_159 (fun t_4 ht_4 => ?_)
        refine j_iload hX 11 dX4_stir_162 rfl ?_
        refine j_tiN hX i (.int (s_cube.getD i 0)) ht_4 (by omega) (by decide) rfl dX4_stir_164 ?_
        refine j_iadd hX dX4_stir_165 ?_
        refine j_pc 166 rfl ?_
        refine j_aload_n hX 2 dX4_stir_166 rfl ?_
        refine j_get hX in4 4 0 1 (v := .ref wa) rfl rfl (by decide) (List.mem_of_getElem? (i := 3) rfl) rfl rfl dX4_stir_167 ?_
        refine j_iload hX 11 dX4_stir_170 rfl ?_
        refine j_ialdN hX 2 i rfl (by omega) (by omega) dX4_stir_172 ?_
        refine j_iadd hX dX4_stir_173 ?_
        refine j_topi (fun pp epp => ?_)
        refine j_istore hX [(12, .int pp), (11, .int (((ror va 2) ^^^ (ror va 13)) ^^^ (ror va 22))), (10, .int (((ror ve 6) ^^^ (ror ve 11)) ^^^ (ror ve 25))), (0, .ref z), (1, .int va), (2, .int vb), (3, .int vc), (4, .int vd), (5, .int ve), (6, .int vf), (7, .int vg), (8, .int vh), (9, .int (nI i))] dX4_stir_174 (by decide) rfl ?_
        refine j_iload hX 1 dX4_stir_176 rfl ?_
        refine j_iload_n hX 4 dX4_stir_178 rfl ?_
        refine j_pc 179 rfl ?_
        refine j_iload_n hX 5 dX4_stir_179 rfl ?_
        refine j_iand hX dX4_stir_180 ?_
        refine j_iload_n hX 4 dX4_stir_181 rfl ?_
        refine j_iload_n hX 6 dX4_stir_182 rfl ?_
        refine j_iand hX dX4_stir_183 ?_
        refine j_ixor hX dX4_stir_184 ?_
        refine j_iload_n hX 5 dX4_stir_185 rfl ?_
        refine j_iload_n hX 6 dX4_stir_186 rfl ?_
        refine j_pc 187 rfl ?_
        refine j_iand hX dX4_stir_187 ?_
        refine j_ixor hX dX4_stir_188 ?_
        refine j_iadd hX dX4_stir_189 ?_
        refine j_topi (fun qq eqq => ?_)
        refine j_istore hX [(13, .int qq), (12, .int pp), (11, .int (((ror va 2) ^^^ (ror va 13)) ^^^ (ror va 22))), (10, .int (((ror ve 6) ^^^ (ror ve 11)) ^^^ (ror ve 25))), (0, .ref z), (1, .int va), (2, .int vb), (3, .int vc), (4, .int vd), (5, .int ve), (6, .int vf), (7, .int vg), (8, .int vh), (9, .int (nI i))] dX4_stir_190 (by decide) rfl ?_
        refine j_iload hX 11 dX4_stir_192 rfl ?_
        refine j_istore hX [(8, .int vg), (13, .int qq), (12, .int pp), (11, .int (((ror va 2) ^^^ (ror va 13)) ^^^ (ror va 22))), (10, .int (((ror ve 6) ^^^ (ror ve 11)) ^^^ (ror ve 25))), (0, .ref z), (1, .int va), (2, .int vb), (3, .int vc), (4, .int vd), (5, .int ve), (6, .int vf), (7, .int vg), (9, .int (nI i))] dX4_stir_194 (by decide) rfl ?_
        refine j_iload hX 11 dX4_stir_196 rfl ?_
        refine j_istore hX [(7, .int vf), (8, .int vg), (13, .int qq), (12, .int pp), (11, .int (((ror va 2) ^^^ (ror va 13)) ^^^ (ror va 22))), (10, .int (((ror ve 6) ^^^ (ror ve 11)) ^^^ (ror ve 25))), (0, .ref z), (1, .int va), (2, .int vb), (3, .int vc), (4, .int vd), (5, .int ve), (6, .int vf), (9, .int (nI i))] dX4_stir_198 (by decide) rfl ?_
        refine j_pc 200 rfl ?_
        refine j_iload hX 11 dX4_stir_200 rfl ?_
        refine j_istore hX [(6, .int ve), (7, .int vf), (8, .int vg), (13, .int qq), (12, .int pp), (11, .int (((ror va 2) ^^^ (ror va 13)) ^^^ (ror va 22))), (10, .int (((ror ve 6) ^^^ (ror ve 11)) ^^^ (ror ve 25))), (0, .ref z), (1, .int va), (2, .int vb), (3, .int vc), (4, .int vd), (5, .int ve), (9, .int (nI i))] dX4_stir_202 (by decide) rfl ?_
        refine j_iload hX 11 dX4_stir_204 rfl ?_
        refine j_iload hX 4 dX4_stir_206 rfl ?_
        refine j_iadd hX dX4_stir_208 ?_
        refine j_istore hX [(5, .int (vd + pp)), (6, .int ve), (7, .int vf), (8, .int vg), (13, .int qq), (12, .int pp), (11, .int (((ror va 2) ^^^ (ror va 13)) ^^^ (ror va 22))), (10, .int (((ror ve 6) ^^^ (ror ve 11)) ^^^ (ror ve 25))), (0, .ref z), (1, .int va), (2, .int vb), (3, .int vc), (4, .int vd), (9, .int (nI i))] dX4_stir_209 (by decide) rfl ?_
        refine j_iload_n hX 11 dX4_stir_211 rfl ?_
        refine j_istore hX [(4, .int vc), (5, .int (vd + pp)), (6, .int ve), (7, .int vf), (8, .int vg), (13, .int qq), (12, .int pp), (11, .int (((ror va 2) ^^^ (ror va 13)) ^^^ (ror va 22))), (10, .int (((ror ve 6) ^^^ (ror ve 11)) ^^^ (ror ve 25))), (0, .ref z), (1, .int va), (2, .int vb), (3, .int vc), (9, .int (nI i))] dX4_stir_212 (by decide) rfl ?_
        refine j_pc 214 rfl ?_
        refine j_iload_n hX 11 dX4_stir_214 rfl ?_
        refine j_istore_n hX 3 [(3, .int vb), (4, .int vc), (5, .int (vd + pp)), (6, .int ve), (7, .int vf), (8, .int vg), (13, .int qq), (12, .int pp), (11, .int (((ror va 2) ^^^ (ror va 13)) ^^^ (ror va 22))), (10, .int (((ror ve 6) ^^^ (ror ve 11)) ^^^ (ror ve 25))), (0, .ref z), (1, .int va), (2, .int vb), (9, .int (nI i))] dX4_stir_215 rfl (by decide) rfl ?_
        refine j_iload_n hX 11 dX4_stir_216 rfl ?_
        refine j_istore_n hX 2 [(2, .int va), (3, .int vb), (4, .int vc), (5, .int (vd + pp)), (6, .int ve), (7, .int vf), (8, .int vg), (13, .int qq), (12, .int pp), (11, .int (((ror va 2) ^^^ (ror va 13)) ^^^ (ror va 22))), (10, .int (((ror ve 6) ^^^ (ror ve 11)) ^^^ (ror ve 25))), (0, .ref z), (1, .int va), (9, .int (nI i))] dX4_stir_217 rfl (by decide) rfl ?_
        refine j_iload hX 8 dX4_stir_218 rfl ?_
        refine j_iload hX 7 dX4_stir_220 rfl ?_
        refine j_iadd hX dX4_stir_222 ?_
        refine j_istore_n hX 1 [(1, .int (pp + qq)), (2, .int va), (3, .int vb), (4, .int vc), (5, .int (vd + pp)), (6, .int ve), (7, .int vf), (8, .int vg), (13, .int qq), (12, .int pp), (11, .int (((ror va 2) ^^^ (ror va 13)) ^^^ (ror va 22))), (10, .int (((ror ve 6) ^^^ (ror ve 11)) ^^^ (ror ve 25))), (0, .ref z), (9, .int (nI i))] dX4_stir_223 rfl (by decide) rfl ?_
        refine j_pc 224 rfl ?_
        refine j_iincN hX i (i + 1) [(9, .int (nI (i + 1))), (1, .int (pp + qq)), (2, .int va), (3, .int vb), (4, .int vc), (5, .int (vd + pp)), (6, .int ve), (7, .int vf), (8, .int vg), (13, .int qq), (12, .int pp), (11, .int (((ror va 2) ^^^ (ror va 13)) ^^^ (ror va 22))), (10, .int (((ror ve 6) ^^^ (ror ve 11)) ^^^ (ror ve 25))), (0, .ref z)] 13 dX4_stir_224 rfl (nI_1 _) (by decide) rfl ?_
        refine j_goto hX 66 dX4_stir_227 (by decide) ?_
        refine j_perm [(0, .ref z), (1, .int (pp + qq)), (2, .int va), (3, .int vb), (4, .int vc), (5, .int (vd + pp)), (6, .int ve), (7, .int vf), (8, .int vg), (9, .int (nI (i + 1)))] [13, 1, 2, 3, 4, 5, 6, 7, 8, 0] rfl ?_
        exact ih_3 (pp + qq) va vb vc (vd + pp) ve vf vg (i + 1) (by omega) (by omega) (by rw [rds, ← hx, epp, eqq]; rfl)
  refine j_perm [(0, .ref z), (1, .int (F 0)), (2, .int (F 1)), (3, .int (F 2)), (4, .int (F 3)), (5, .int (F 4)), (6, .int (F 5)), (7, .int (F 6)), (8, .int (F 7)), (9, .int (nI 0))] [9, 8, 7, 6, 5, 4, 3, 2, 1, 0] rfl ?_
  exact lp_1 _ (F 0) (F 1) (F 2) (F 3) (F 4) (F 5) (F 6) (F 7) 0 (Nat.lt_succ_self _) (by omega) rfl

set_option maxHeartbeats 1000000 in
set_option maxRecDepth 100000 in
/-- HashZero.digest -/
theorem c_digest0 (l : Launch) (g : jG) (z : Nat) (sa : Nat) (wa : Nat) (S0 : Nat → Int32) (w0 : Nat → Int32) (ri : Nat) (ria : Nat) (n : Nat) (capi : Nat) (fi : Nat → Int32) (ro : Nat) (roa : Nat) (no : Nat) (fo : Nat → Int32) (hn : n + 72 ≤ capi) (hc : capi < 2 ^ 30) (hno : no ≤ 32) : jC l g yX4_digest wsX4_digest ({ frames := 1, cells := 0, slots := 0, locals := 33 } : Room) [.ref z, .ref ri, .ref ro] [oB z 4 [.ref sa, .ref wa], iA g sa 8 S0, iA g wa 64 w0, oB ri 7 [.ref ria, .int (nI n)], bA g ria capi fi, oB ro 7 [.ref roa, .int (nI no)], bA g roa 32 fo] (fun u : (Nat → Int32) × (Nat → Int32) × Nat × (Nat → Int32) × (Nat → Int32) => none) (fun u : (Nat → Int32) × (Nat → Int32) × Nat × (Nat → Int32) × (Nat → Int32) => u.2.2.1 ≤ capi ∧ u.2.2.2.2 = putL fo 0 (HASH0 (slice fi 0 n))) (fun u : (Nat → Int32) × (Nat → Int32) × Nat × (Nat → Int32) × (Nat → Int32) => [oB z 4 [.ref sa, .ref wa], iA g sa 8 u.1, iA g wa 64 u.2.1, oB ri 7 [.ref ria, .int (nI u.2.2.1)], bA g ria capi u.2.2.2.1, oB ro 7 [.ref roa, .int (nI 32)], bA g roa 32 u.2.2.2.2]) := by
  refine jC.of (cc := cX4_digest) (own := RX4) (maxL := 6) (ret := none) (by decide +kernel) rfl rfl (Nat.le_of_ble_eq_true rfl) (fun u hu => rfl) ?_
  intro p e s m below meth c A Q hX hret
  have in4 : ∀ w ∈ wsX40, w ∈ wsX4_digest := (fun w h => List.mem_cons_of_mem _ (List.mem_append_right _ h))
  have in7 : ∀ w ∈ wsX70, w ∈ wsX4_digest := (fun w h => List.mem_cons_of_mem _ (List.mem_append_left _ (List.mem_append_right _ h)))
  refine j_ldc2 hX dX4_digest_0 (List.mem_of_getElem? (i := 1) rfl) ?_
  refine j_aload_n hX 1 dX4_digest_3 rfl ?_
  refine j_get hX in7 7 3 1 (v := .int (nI n)) rfl rfl (by decide) (List.mem_of_getElem? (i := 2) rfl) rfl rfl dX4_digest_4 ?_
  refine j_i2l hX dX4_digest_7 ?_
  refine j_lmul hX dX4_digest_8 ?_
  refine j_lstore_n hX 3 [(3, .long ((8 : Int64) * ((nI n).toInt64))), (0, .ref z), (1, .ref ri), (2, .ref ro)] dX4_digest_9 rfl (by decide) rfl ?_
  refine j_aload_n hX 2 dX4_digest_10 rfl ?_
  refine j_pc 11 rfl ?_
  refine j_ldc2 hX dX4_digest_11 (List.mem_of_getElem? (i := 3) rfl) ?_
  refine j_iconst hX (1) dX4_digest_14 (by decide) ?_
  refine j_callV hX 2 (c_addNumber l g ri ria n capi fi (128 : Int64) 1 (by omega) (by omega) (by omega)) gX4_digest_X7_addNumber (by decide +kernel) rfl ⟨rfl, rfl⟩ ⟨Nat.le_of_ble_eq_true rfl, Nat.le_of_ble_eq_true rfl⟩ 7 3 rfl rfl [3, 4] rfl (by decide) (fun _ => rfl) rfl [] rfl (Nat.le_of_ble_eq_true rfl) ⟨Nat.le_refl _, Nat.le_refl _⟩ dX4_digest_15 ?_
  intro F1 hF1
  try dsimp only at hF1
  refine j_w [oB z 4 [.ref sa, .ref wa], iA g sa 8 S0, iA g wa 64 w0, oB ri 7 [.ref ria, .int (nI (n + 1))], bA g ria capi F1, oB ro 7 [.ref roa, .int (nI no)], bA g roa 32 fo] rfl ?_
  refine j_st [] rfl ?_
  refine j_aload_n hX 2 dX4_digest_18 rfl ?_
  refine j_lconst hX 0 dX4_digest_19 rfl ?_
  refine j_bipush hX (120) dX4_digest_20 (by decide) ?_
  refine j_aload_n hX 2 dX4_digest_22 rfl ?_
  refine j_get hX in7 7 3 1 (v := .int (nI (n + 1))) rfl rfl (by decide) (List.mem_of_getElem? (i := 2) rfl) rfl rfl dX4_digest_23 ?_
  refine j_pc 26 rfl ?_
  refine j_bipush hX (64) dX4_digest_26 (by decide) ?_
  refine j_iremN hX (n + 1) 64 (by omega) (by omega) (by omega) dX4_digest_28 ?_
  refine j_isubN hX 120 ((n + 1) % 64) (by omega) dX4_digest_29 ?_
  refine j_bipush hX (64) dX4_digest_30 (by decide) ?_
  refine j_iremN hX (120 - ((n + 1) % 64)) 64 (by omega) (by omega) (by omega) dX4_digest_32 ?_
  refine j_callV hX 2 (c_addNumber l g ri ria (n + 1) capi F1 (0 : Int64) ((120 - ((n + 1) % 64)) % 64) (by omega) (by omega) (by omega)) gX4_digest_X7_addNumber (by decide +kernel) rfl ⟨rfl, rfl⟩ ⟨Nat.le_of_ble_eq_true rfl, Nat.le_of_ble_eq_true rfl⟩ 7 3 rfl rfl [3, 4] rfl (by decide) (fun _ => rfl) rfl [] rfl (Nat.le_of_ble_eq_true rfl) ⟨Nat.le_refl _, Nat.le_refl _⟩ dX4_digest_33 ?_
  intro F2 hF2
  try dsimp only at hF2
  refine j_w [oB z 4 [.ref sa, .ref wa], iA g sa 8 S0, iA g wa 64 w0, oB ri 7 [.ref ria, .int (nI ((n + 1) + ((120 - ((n + 1) % 64)) % 64)))], bA g ria capi F2, oB ro 7 [.ref roa, .int (nI no)], bA g roa 32 fo] rfl ?_
  refine j_st [] rfl ?_
  refine j_aload_n hX 2 dX4_digest_36 rfl ?_
  refine j_lload_n hX 0 dX4_digest_37 rfl ?_
  refine j_pc 38 rfl ?_
  refine j_bipush hX (8) dX4_digest_38 (by decide) ?_
  refine j_callV hX 2 (c_addNumber l g ri ria ((n + 1) + ((120 - ((n + 1) % 64)) % 64)) capi F2 ((8 : Int64) * ((nI n).toInt64)) 8 (by omega) (by omega) (by omega)) gX4_digest_X7_addNumber (by decide +kernel) rfl ⟨rfl, rfl⟩ ⟨Nat.le_of_ble_eq_true rfl, Nat.le_of_ble_eq_true rfl⟩ 7 3 rfl rfl [3, 4] rfl (by decide) (fun _ => rfl) rfl [] rfl (Nat.le_of_ble_eq_true rfl) ⟨Nat.le_refl _, Nat.le_refl _⟩ dX4_digest_40 ?_
  intro F3 hF3
  try dsimp only at hF3
  refine j_w [oB z 4 [.ref sa, .ref wa], iA g sa 8 S0, iA g wa 64 w0, oB ri 7 [.ref ria, .int (nI (((n + 1) + ((120 - ((n + 1) % 64)) % 64)) + 8))], bA g ria capi F3, oB ro 7 [.ref roa, .int (nI no)], bA g roa 32 fo] rfl ?_
  refine j_st [] rfl ?_
  have hT := tail0_eq hF1 hF2 hF3
  have hm := pad0_mod n
  have htl := tail0_length n
  have hz0 : z0 n = (120 - (n + 1) % 64) % 64 := rfl
  obtain ⟨nl, hnl⟩ : ∃ q, q = n + 1 + (120 - (n + 1) % 64) % 64 + 8 := ⟨_, rfl⟩
  refine j_w [oB z 4 [.ref sa, .ref wa], iA g sa 8 S0, iA g wa 64 w0, oB ri 7 [.ref ria, .int (nI nl)], bA g ria capi F3, oB ro 7 [.ref roa, .int (nI no)], bA g roa 32 fo] (by rw [hnl]) ?_
  refine j_iconst hX (0) dX4_digest_43 (by decide) ?_
  refine j_st [.int (nI 0)] rfl ?_
  refine j_istore hX [(5, .int (nI 0)), (3, .long ((8 : Int64) * ((nI n).toInt64))), (0, .ref z), (1, .ref ri), (2, .ref ro)] dX4_digest_44 (by decide) rfl ?_
  have lp_1 : ∀ (n_2 : Nat) (i : Nat) (S : Nat → Int32), (8 - i < n_2) → (i ≤ 8) → (∀ j, j < i → S j = s_first.getD j 0) → J p l e ({ frames := 1, cells := 0, slots := 0, locals := 33 } : Room) s m ([.ref z, .ref ri, .ref ro] : List Value).toArray below meth c g A 6 Q 0 0 [oB z 4 [.ref sa, .ref wa], iA g sa 8 S, iA g wa 64 w0, oB ri 7 [.ref ria, .int (nI nl)], bA g ria capi F3, oB ro 7 [.ref roa, .int (nI no)], bA g roa 32 fo] [(0, .ref z), (1, .ref ri), (2, .ref ro), (3, .long ((8 : Int64) * (nI n).toInt64)), (5, .int (nI i))] 46 [] := by
    intro n_2
    induction n_2 with
    | zero => intro i S hm; exact absurd hm (Nat.not_lt_zero _)
    | succ n_2 ih_3 =>
      intro i S hm hi hS
      refine j_iload hX 4 dX4_digest_46 rfl ?_
      refine j_bipush hX (8) dX4_digest_48 (by decide) ?_
      refine j_icmp_geN hX i 8 72 dX4_digest_50 (by decide) (by omega) (by omega) (fun b_50 => ?_) (fun b_50 => ?_)
      · skip
        refine j_iconst hX (0) dX4_digest_72 (by decide) ?_
        refine j_pc 73 rfl ?_
        refine j_st [.int (nI 0)] rfl ?_
        refine j_istore hX [(5, .int (nI 0)), (0, .ref z), (1, .ref ri), (2, .ref ro), (3, .long ((8 : Int64) * (nI n).toInt64))] dX4_digest_73 (by decide) rfl ?_
        have lp_4 : ∀ (n_5 : Nat) (t : Nat) (k : Nat) (S : Nat → Int32) (Wd : Nat → Int32), (nl - t < n_5) → (t = 64 * k) → (t ≤ nl) → (st8 S = hs0 F3 k) → J p l e ({ frames := 1, cells := 0, slots := 0, locals := 33 } : Room) s m ([.ref z, .ref ri, .ref ro] : List Value).toArray below meth c g A 6 Q 0 0 [oB z 4 [.ref sa, .ref wa], iA g sa 8 S, iA g wa 64 Wd, oB ri 7 [.ref ria, .int (nI nl)], bA g ria capi F3, oB ro 7 [.ref roa, .int (nI no)], bA g roa 32 fo] [(0, .ref z), (1, .ref ri), (2, .ref ro), (3, .long ((8 : Int64) * (nI n).toInt64)), (5, .int (nI t))] 75 [] := by
          intro n_5
          induction n_5 with
          | zero => intro t k S Wd hm; exact absurd hm (Nat.not_lt_zero _)
          | succ n_5 ih_6 =>
            intro t k S Wd hm ht htl2 hS
            refine j_iload hX 4 dX4_digest_75 rfl ?_
            refine j_bipush hX (64) dX4_digest_77 (by decide) ?_
            refine j_iaddN hX t 64 dX4_digest_79 ?_
            refine j_aload_n hX 1 dX4_digest_80 rfl ?_
            refine j_get hX in7 7 3 1 (v := .int (nI nl)) rfl rfl (by decide) (List.mem_of_getElem? (i := 2) rfl) rfl rfl dX4_digest_81 ?_
            refine j_icmp_gtN hX (t + 64) nl 107 dX4_digest_84 (by decide) (by omega) (by omega) (fun b_84 => ?_) (fun b_84 => ?_)
            · skip
              refine j_aload_n hX 2 dX4_digest_107 rfl ?_
              refine j_pc 108 rfl ?_
              refine j_callV hX 0 (c_clear l g ro roa (nI no) ) gX4_digest_X7_clear (by decide +kernel) rfl ⟨rfl, rfl⟩ ⟨Nat.le_of_ble_eq_true rfl, Nat.le_of_ble_eq_true rfl⟩ 7 5 rfl rfl [5] rfl (by decide) (fun _ => rfl) rfl [] rfl (Nat.le_of_ble_eq_true rfl) ⟨Nat.le_refl _, Nat.le_refl _⟩ dX4_digest_108 ?_
              intro _ hu_7
              refine j_w [oB z 4 [.ref sa, .ref wa], iA g sa 8 S, iA g wa 64 Wd, oB ri 7 [.ref ria, .int (nI nl)], bA g ria capi F3, oB ro 7 [.ref roa, .int (nI 0)], bA g roa 32 fo] rfl ?_
              refine j_st [] rfl ?_
              refine j_iconst hX (0) dX4_digest_111 (by decide) ?_
              refine j_st [.int (nI 0)] rfl ?_
              refine j_istore hX [(5, .int (nI 0)), (0, .ref z), (1, .ref ri), (2, .ref ro), (3, .long ((8 : Int64) * (nI n).toInt64))] dX4_digest_112 (by decide) rfl ?_
              have lp_8 : ∀ (n_9 : Nat) (i : Nat) (lo : Nat) (FO : Nat → Int32), (8 - i < n_9) → (i ≤ 8) → (lo = 4 * i) → (FO = putL fo 0 (D0l S i)) → J p l e ({ frames := 1, cells := 0, slots := 0, locals := 33 } : Room) s m ([.ref z, .ref ri, .ref ro] : List Value).toArray below meth c g A 6 Q 0 0 [oB z 4 [.ref sa, .ref wa], iA g sa 8 S, iA g wa 64 Wd, oB ri 7 [.ref ria, .int (nI nl)], bA g ria capi F3, oB ro 7 [.ref roa, .int (nI lo)], bA g roa 32 FO] [(0, .ref z), (1, .ref ri), (2, .ref ro), (3, .long ((8 : Int64) * (nI n).toInt64)), (5, .int (nI i))] 114 [] := by
                intro n_9
                induction n_9 with
                | zero => intro i lo FO hm; exact absurd hm (Nat.not_lt_zero _)
                | succ n_9 ih_10 =>
                  intro i lo FO hm hi hlo hO
                  refine j_iload hX 4 dX4_digest_114 rfl ?_
                  refine j_bipush hX (8) dX4_digest_116 (by decide) ?_
                  refine j_icmp_geN hX i 8 140 dX4_digest_118 (by decide) (by omega) (by omega) (fun b_118 => ?_) (fun b_118 => ?_)
                  · skip
                    have h8 : i = 8 := by omega
                    subst h8
                    have hk64 : t = nl := by omega
                    rw [hT] at hS
                    have hH := HASH0_of hS (by omega)
                    have hlo2 : lo = 32 := by omega
                    subst hlo2
                    exact hret (S, Wd, nl, F3, FO) (by dsimp only; exact ⟨by omega, by rw [hO, hH]⟩) 140 _ .return_ dX4_digest_140 rfl
                  · skip
                    refine j_aload_n hX 2 dX4_digest_121 rfl ?_
                    refine j_pc 122 rfl ?_
                    refine j_aload_n hX 0 dX4_digest_122 rfl ?_
                    refine j_get hX in4 4 0 0 (v := .ref sa) rfl rfl (by decide) (List.mem_of_getElem? (i := 4) rfl) rfl rfl dX4_digest_123 ?_
                    refine j_iload hX 4 dX4_digest_126 rfl ?_
                    refine j_ialdN hX 1 i rfl (by omega) (by omega) dX4_digest_128 ?_
                    refine j_i2l hX dX4_digest_129 ?_
                    refine j_iconst hX (4) dX4_digest_130 (by decide) ?_
                    refine j_callV hX 2 (c_addNumber l g ro roa lo 32 FO ((S i).toInt64) 4 (by omega) (by omega) (by omega)) gX4_digest_X7_addNumber (by decide +kernel) rfl ⟨rfl, rfl⟩ ⟨Nat.le_of_ble_eq_true rfl, Nat.le_of_ble_eq_true rfl⟩ 7 5 rfl rfl [5, 6] rfl (by decide) (fun _ => rfl) rfl [] rfl (Nat.le_of_ble_eq_true rfl) ⟨Nat.le_refl _, Nat.le_refl _⟩ dX4_digest_131 ?_
                    intro FO2 hFO2
                    try dsimp only at hFO2
                    refine j_w [oB z 4 [.ref sa, .ref wa], iA g sa 8 S, iA g wa 64 Wd, oB ri 7 [.ref ria, .int (nI nl)], bA g ria capi F3, oB ro 7 [.ref roa, .int (nI (lo + 4))], bA g roa 32 FO2] rfl ?_
                    refine j_st [] rfl ?_
                    refine j_iincN hX i (i + 1) [(5, .int (nI (i + 1))), (0, .ref z), (1, .ref ri), (2, .ref ro), (3, .long ((8 : Int64) * (nI n).toInt64))] 4 dX4_digest_134 rfl (nI_1 _) (by decide) rfl ?_
                    refine j_pc 137 rfl ?_
                    refine j_goto hX 114 dX4_digest_137 (by decide) ?_
                    refine j_perm [(0, .ref z), (1, .ref ri), (2, .ref ro), (3, .long ((8 : Int64) * (nI n).toInt64)), (5, .int (nI (i + 1)))] [1, 2, 3, 4, 0] rfl ?_
                    exact ih_10 (i + 1) (lo + 4) FO2 (by omega) (by omega) (by omega) (by rw [hFO2, hO, putL_app' (by rw [D0l_length]; omega)]; rfl)
              refine j_perm [(0, .ref z), (1, .ref ri), (2, .ref ro), (3, .long ((8 : Int64) * (nI n).toInt64)), (5, .int (nI 0))] [1, 2, 3, 4, 0] rfl ?_
              exact lp_8 _ 0 0 fo (Nat.lt_succ_self _) (by omega) (by omega) (by rw [D0l, putL_nil])
            · skip
              refine j_aload_n hX 0 dX4_digest_87 rfl ?_
              refine j_aload_n hX 1 dX4_digest_88 rfl ?_
              refine j_get hX in7 7 3 0 (v := .ref ria) rfl rfl (by decide) (List.mem_of_getElem? (i := 6) rfl) rfl rfl dX4_digest_89 ?_
              refine j_iload hX 4 dX4_digest_92 rfl ?_
              refine j_callV hX 2 (c_spread l g z sa wa ria capi Wd F3 t (by omega) (by omega)) gX4_digest_X4_spread (by decide +kernel) rfl ⟨rfl, rfl⟩ ⟨Nat.le_of_ble_eq_true rfl, Nat.le_of_ble_eq_true rfl⟩ 4 0 rfl rfl [0, 2, 4] rfl (by decide) (fun _ => rfl) rfl [] rfl (Nat.le_of_ble_eq_true rfl) ⟨Nat.le_refl _, Nat.le_refl _⟩ dX4_digest_94 ?_
              intro W2 hW2
              try dsimp only at hW2
              refine j_w [oB z 4 [.ref sa, .ref wa], iA g sa 8 S, iA g wa 64 W2, oB ri 7 [.ref ria, .int (nI nl)], bA g ria capi F3, oB ro 7 [.ref roa, .int (nI no)], bA g roa 32 fo] rfl ?_
              refine j_st [] rfl ?_
              refine j_aload_n hX 0 dX4_digest_97 rfl ?_
              refine j_callV hX 0 (c_stir l g z sa wa S W2 ) gX4_digest_X4_stir (by decide +kernel) rfl ⟨rfl, rfl⟩ ⟨Nat.le_of_ble_eq_true rfl, Nat.le_of_ble_eq_true rfl⟩ 4 0 rfl rfl [0, 1, 2] rfl (by decide) (fun _ => rfl) rfl [] rfl (Nat.le_of_ble_eq_true rfl) ⟨Nat.le_refl _, Nat.le_refl _⟩ dX4_digest_98 ?_
              intro S2 hS2
              try dsimp only at hS2
              refine j_w [oB z 4 [.ref sa, .ref wa], iA g sa 8 S2, iA g wa 64 W2, oB ri 7 [.ref ria, .int (nI nl)], bA g ria capi F3, oB ro 7 [.ref roa, .int (nI no)], bA g roa 32 fo] rfl ?_
              refine j_st [] rfl ?_
              refine j_pc 101 rfl ?_
              refine j_iincN hX t (t + 64) [(5, .int (nI (t + 64))), (0, .ref z), (1, .ref ri), (2, .ref ro), (3, .long ((8 : Int64) * (nI n).toInt64))] 4 dX4_digest_101 rfl (nI_add _ _) (by decide) rfl ?_
              refine j_goto hX 75 dX4_digest_104 (by decide) ?_
              refine j_perm [(0, .ref z), (1, .ref ri), (2, .ref ro), (3, .long ((8 : Int64) * (nI n).toInt64)), (5, .int (nI (t + 64)))] [1, 2, 3, 4, 0] rfl ?_
              exact ih_6 (t + 64) (k + 1) S2 W2 (by omega) (by omega) (by omega) (blk_of hS ht hW2 hS2)
        refine j_perm [(0, .ref z), (1, .ref ri), (2, .ref ro), (3, .long ((8 : Int64) * (nI n).toInt64)), (5, .int (nI 0))] [1, 2, 3, 4, 0] rfl ?_
        exact lp_4 _ 0 0 S w0 (Nat.lt_succ_self _) (by omega) (by omega) (by show st8 S = st8 (lF s_first); unfold st8; rw [hS 0 (by omega), hS 1 (by omega), hS 2 (by omega), hS 3 (by omega), hS 4 (by omega), hS 5 (by omega), hS 6 (by omega), hS 7 (by omega)]; rfl)
      · skip
        refine j_aload_n hX 0 dX4_digest_53 rfl ?_
        refine j_get hX in4 4 0 0 (v := .ref sa) rfl rfl (by decide) (List.mem_of_getElem? (i := 4) rfl) rfl rfl dX4_digest_54 ?_
        refine j_iload hX 4 dX4_digest_57 rfl ?_
        refine j_gets hX hX.2.2.2.2.2.2.2.1 (List.mem_of_getElem? (i := 5) rfl) rfl dX4_digest_59 (fun t_11 ht_11 => ?_)
        refine j_iload hX 4 dX4_digest_62 rfl ?_
        refine j_tiN hX i (.int (s_first.getD i 0)) ht_11 (by omega) (by decide) rfl dX4_digest_64 ?_
        refine j_pc 65 rfl ?_
        refine j_iastN hX 1 i rfl (by omega) (by omega) [oB z 4 [.ref sa, .ref wa], iA g sa 8 (upd S i (s_first.getD i 0)), iA g wa 64 w0, oB ri 7 [.ref ria, .int (nI nl)], bA g ria capi F3, oB ro 7 [.ref roa, .int (nI no)], bA g roa 32 fo] rfl dX4_digest_65 ?_
        refine j_iincN hX i (i + 1) [(5, .int (nI (i + 1))), (0, .ref z), (1, .ref ri), (2, .ref ro), (3, .long ((8 : Int64) * (nI n).toInt64))] 4 dX4_digest_66 rfl (nI_1 _) (by decide) rfl ?_
        refine j_goto hX 46 dX4_digest_69 (by decide) ?_
        refine j_perm [(0, .ref z), (1, .ref ri), (2, .ref ro), (3, .long ((8 : Int64) * (nI n).toInt64)), (5, .int (nI (i + 1)))] [1, 2, 3, 4, 0] rfl ?_
        exact ih_3 (i + 1) (upd S i (s_first.getD i 0)) (by omega) (by omega) (fun j hj => by unfold upd; split; (rename_i hji; rw [hji]); (rename_i hji; exact hS j (by omega)))
  refine j_perm [(0, .ref z), (1, .ref ri), (2, .ref ro), (3, .long ((8 : Int64) * ((nI n).toInt64))), (5, .int (nI 0))] [2, 3, 4, 1, 0] rfl ?_
  exact lp_1 _ 0 S0 (Nat.lt_succ_self _) (by omega) (fun j hj => absurd hj (Nat.not_lt_zero j))

