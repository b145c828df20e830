def lft (x : Int64) (t : Int32) : Int64 := if t = 0 then x else lshl x t ||| lush x (64 - t)
theorem lft_ne {x : Int64} {t : Int32} (h : ¬ t = 0) : lft x t = rlc x t := if_neg h
theorem rlc0 (x : Int64) : rlc x 0 = x := by
  unfold rlc
  have h1 : lshl x 0 = x := by
    apply Int64.toBitVec_inj.mp
    show x.toBitVec <<< ((((0 : Int32).toInt64 &&& 63).toBitVec).smod 64) = _
    have : (((0 : Int32).toInt64 &&& 63).toBitVec).smod 64 = BitVec.ofNat 64 0 := by decide +kernel
    rw [this, BitVec.shiftLeft_eq', BitVec.toNat_ofNat]
    simp
  have h2 : lush x (64 - 0) = x := by
    apply Int64.toBitVec_inj.mp
    show x.toBitVec >>> ((((64 : Int32) - 0).toInt64.toUInt64 &&& Int64.toUInt64 63).toBitVec % 64) = _
    have : (((64 : Int32) - 0).toInt64.toUInt64 &&& Int64.toUInt64 63).toBitVec % 64 = BitVec.ofNat 64 0 := by decide +kernel
    rw [this, BitVec.ushiftRight_eq', BitVec.toNat_ofNat]
    simp
  rw [h1, h2]
  apply Int64.toBitVec_inj.mp
  show x.toBitVec ||| x.toBitVec = x.toBitVec
  exact BitVec.or_self
theorem turn_ne : ∀ k, k < 25 → k ≠ 0 → ¬ s_turns.getD k 0 = 0 := by decide
theorem lft_turn {x : Int64} {t : Int32} {k : Nat} (ht : t = s_turns.getD k 0) (hk : k < 25) : lft x t = rlc x (s_turns.getD k 0) := by
  subst ht
  by_cases h : k = 0
  · subst h
    show lft x 0 = rlc x 0
    rw [rlc0]
    rfl
  · exact lft_ne (turn_ne k hk h)
theorem th_step {AL G : Nat → Int64} {x y : Nat} (hx : x < 5) (hy : y < 5) (h : ∀ k, k < 25 → G k = if k % 5 < x ∨ (k % 5 = x ∧ k / 5 < y) then kT AL k else AL k) : ∀ k, k < 25 → vp_updL G (x + 5 * y) (AL (x + 5 * y) ^^^ kD AL x) k = if k % 5 < x ∨ (k % 5 = x ∧ k / 5 < y + 1) then kT AL k else AL k := by
  intro k hk
  by_cases e : k = x + 5 * y
  · subst e
    rw [updL_eq, if_pos (by omega)]
    unfold kT
    rw [show (x + 5 * y) % 5 = x by omega]
  · rw [updL_ne e, h k hk]
    by_cases c : k % 5 < x ∨ (k % 5 = x ∧ k / 5 < y)
    · rw [if_pos c, if_pos (by omega)]
    · rw [if_neg c, if_neg (by omega)]
theorem xy_tgt : ∀ x, x < 5 → ∀ y, y < 5 → y + 5 * ((2 * x + 3 * y) % 5) = kTgt (x + 5 * y) := by decide
theorem tgt_inj : ∀ i, i < 25 → ∀ j, j < 25 → i ≠ j → kTgt i ≠ kTgt j := by decide
theorem tgt_src : ∀ j, j < 25 → kTgt (kSrc j) = j := by decide
theorem rho_step {G TT : Nat → Int64} {x y : Nat} (hx : x < 5) (hy : y < 5) (h : ∀ k, k < 25 → (k % 5 < x ∨ (k % 5 = x ∧ k / 5 < y)) → TT (kTgt k) = rlc (G k) (s_turns.getD k 0)) : ∀ k, k < 25 → (k % 5 < x ∨ (k % 5 = x ∧ k / 5 < y + 1)) → vp_updL TT (y + 5 * ((2 * x + 3 * y) % 5)) (rlc (G (x + 5 * y)) (s_turns.getD (x + 5 * y) 0)) (kTgt k) = rlc (G k) (s_turns.getD k 0) := by
  intro k hk c
  rw [xy_tgt x hx y hy]
  by_cases e : k = x + 5 * y
  · subst e
    rw [updL_eq]
  · rw [updL_ne (tgt_inj k hk _ (by omega) e)]
    exact h k hk (by omega)
theorem chi_step {B G : Nat → Int64} {x y : Nat} (hx : x < 5) (hy : y < 5) (h : ∀ k, k < 25 → (k % 5 < x ∨ (k % 5 = x ∧ k / 5 < y)) → G k = kX B k) : ∀ k, k < 25 → (k % 5 < x ∨ (k % 5 = x ∧ k / 5 < y + 1)) → vp_updL G (x + 5 * y) (kX B (x + 5 * y)) k = kX B k := by
  intro k hk c
  by_cases e : k = x + 5 * y
  · subst e
    rw [updL_eq]
  · rw [updL_ne e]
    exact h k hk (by omega)
theorem kX_xy (B : Nat → Int64) {x y : Nat} (hx : x < 5) : B (x + 5 * y) ^^^ ((B ((x + 1) % 5 + 5 * y) ^^^ (-1)) &&& B ((x + 2) % 5 + 5 * y)) = kX B (x + 5 * y) := by
  unfold kX
  rw [show ((x + 5 * y) % 5 + 1) % 5 + 5 * ((x + 5 * y) / 5) = (x + 1) % 5 + 5 * y by omega, show ((x + 5 * y) % 5 + 2) % 5 + 5 * ((x + 5 * y) / 5) = (x + 2) % 5 + 5 * y by omega]
def lfI : Nat → Int32
  | 0 => 1
  | m + 1 => (lfI m <<< (1 &&& 31)) ^^^ (if lfI m <<< (1 &&& 31) < 256 then 0 else 369)
def wv (m j : Nat) : Int64 := if lfI m &&& 1 = 1 then lshl 1 (nI (1 * 2 ^ j - 1)) else 0
def xw (v : Int64) (m : Nat) : Nat → Int64
  | 0 => v
  | j + 1 => xw v m j ^^^ wv (m + j) j
theorem rc_ok (v : Int64) (r : Nat) (hr : r < 24) : xw v (7 * r) 7 = v ^^^ s_round.getD r 0 := by
  have h : ∀ r, r < 24 → ((((((wv (7 * r) 0 ^^^ wv (7 * r + 1) 1) ^^^ wv (7 * r + 2) 2) ^^^ wv (7 * r + 3) 3) ^^^ wv (7 * r + 4) 4) ^^^ wv (7 * r + 5) 5) ^^^ wv (7 * r + 6) 6) = s_round.getD r 0 := by decide +kernel
  rw [← h r hr]
  show ((((((v ^^^ wv (7 * r) 0) ^^^ wv (7 * r + 1) 1) ^^^ wv (7 * r + 2) 2) ^^^ wv (7 * r + 3) 3) ^^^ wv (7 * r + 4) 4) ^^^ wv (7 * r + 5) 5) ^^^ wv (7 * r + 6) 6 = _
  simp only [Int64.xor_assoc]
theorem pow7 {j : Nat} (h : j < 7) : 1 * 2 ^ j < 2 ^ 32 ∧ 1 ≤ 1 * 2 ^ j := by
  have h1 : 2 ^ j ≤ 2 ^ 7 := Nat.pow_le_pow_right (by decide) (by omega)
  have h2 := Nat.two_pow_pos j
  omega
theorem zer1_put {f F : Nat → Int32} {n q : Nat} (hF : F = putL f n (31 :: List.replicate q 0)) : upd F (n + 1 + q) (i8 0) = putL f n (31 :: List.replicate (q + 1) 0) := by
  rw [hF, putL_snoc (by simp; omega), i8_0, List.cons_append, ← List.replicate_succ']
theorem i8_31 : i8 31 = 31 := by decide

theorem dX11_left_0 : decode cX11_left 0 = .ok (.iload_n 2, 1) := by decide +kernel
theorem dX11_left_1 : decode cX11_left 1 = .ok (.ifCond .ne 7, 3) := by decide +kernel
theorem dX11_left_4 : decode cX11_left 4 = .ok (.lload_n 0, 1) := by decide +kernel
theorem dX11_left_5 : decode cX11_left 5 = .ok (.goto 13, 3) := by decide +kernel
theorem dX11_left_8 : decode cX11_left 8 = .ok (.lload_n 0, 1) := by decide +kernel
theorem dX11_left_9 : decode cX11_left 9 = .ok (.iload_n 2, 1) := by decide +kernel
theorem dX11_left_10 : decode cX11_left 10 = .ok (.lshl, 1) := by decide +kernel
theorem dX11_left_11 : decode cX11_left 11 = .ok (.lload_n 0, 1) := by decide +kernel
theorem dX11_left_12 : decode cX11_left 12 = .ok (.bipush 64, 2) := by decide +kernel
theorem dX11_left_14 : decode cX11_left 14 = .ok (.iload_n 2, 1) := by decide +kernel
theorem dX11_left_15 : decode cX11_left 15 = .ok (.isub, 1) := by decide +kernel
theorem dX11_left_16 : decode cX11_left 16 = .ok (.lushr, 1) := by decide +kernel
theorem dX11_left_17 : decode cX11_left 17 = .ok (.lor, 1) := by decide +kernel
theorem dX11_left_18 : decode cX11_left 18 = .ok (.lreturn, 1) := by decide +kernel
set_option maxRecDepth 20000 in
theorem ggX11_mix_X11_left : GoodIn wsX11_mix wsX11_left := goodIn_r _ [9] (by decide +kernel) (by decide +kernel)
set_option maxRecDepth 20000 in
theorem gX11_mix_X11_left : GoodIn wsX11_mix (va_wsS RX11 215 yX11_left wsX11_left) := goodIn_app (goodIn_of _ (by decide +kernel)) ggX11_mix_X11_left
theorem dX11_mix_0 : decode cX11_mix 0 = .ok (.iconst 1, 1) := by decide +kernel
theorem dX11_mix_1 : decode cX11_mix 1 = .ok (.istore_n 1, 1) := by decide +kernel
theorem dX11_mix_2 : decode cX11_mix 2 = .ok (.iconst 0, 1) := by decide +kernel
theorem dX11_mix_3 : decode cX11_mix 3 = .ok (.istore_n 2, 1) := by decide +kernel
theorem dX11_mix_4 : decode cX11_mix 4 = .ok (.iload_n 2, 1) := by decide +kernel
theorem dX11_mix_5 : decode cX11_mix 5 = .ok (.bipush 24, 2) := by decide +kernel
theorem dX11_mix_7 : decode cX11_mix 7 = .ok (.if_icmp .ge 365, 3) := by decide +kernel
theorem dX11_mix_10 : decode cX11_mix 10 = .ok (.iconst 0, 1) := by decide +kernel
theorem dX11_mix_11 : decode cX11_mix 11 = .ok (.istore_n 3, 1) := by decide +kernel
theorem dX11_mix_12 : decode cX11_mix 12 = .ok (.iload_n 3, 1) := by decide +kernel
theorem dX11_mix_13 : decode cX11_mix 13 = .ok (.iconst 5, 1) := by decide +kernel
theorem dX11_mix_14 : decode cX11_mix 14 = .ok (.if_icmp .ge 60, 3) := by decide +kernel
theorem dX11_mix_17 : decode cX11_mix 17 = .ok (.aload_n 0, 1) := by decide +kernel
theorem dX11_mix_18 : decode cX11_mix 18 = .ok (.getfield 111, 3) := by decide +kernel
theorem dX11_mix_21 : decode cX11_mix 21 = .ok (.iload_n 3, 1) := by decide +kernel
theorem dX11_mix_22 : decode cX11_mix 22 = .ok (.aload_n 0, 1) := by decide +kernel
theorem dX11_mix_23 : decode cX11_mix 23 = .ok (.getfield 104, 3) := by decide +kernel
theorem dX11_mix_26 : decode cX11_mix 26 = .ok (.iload_n 3, 1) := by decide +kernel
theorem dX11_mix_27 : decode cX11_mix 27 = .ok (.laload, 1) := by decide +kernel
theorem dX11_mix_28 : decode cX11_mix 28 = .ok (.aload_n 0, 1) := by decide +kernel
theorem dX11_mix_29 : decode cX11_mix 29 = .ok (.getfield 104, 3) := by decide +kernel
theorem dX11_mix_32 : decode cX11_mix 32 = .ok (.iload_n 3, 1) := by decide +kernel
theorem dX11_mix_33 : decode cX11_mix 33 = .ok (.iconst 5, 1) := by decide +kernel
theorem dX11_mix_34 : decode cX11_mix 34 = .ok (.iadd, 1) := by decide +kernel
theorem dX11_mix_35 : decode cX11_mix 35 = .ok (.laload, 1) := by decide +kernel
theorem dX11_mix_36 : decode cX11_mix 36 = .ok (.lxor, 1) := by decide +kernel
theorem dX11_mix_37 : decode cX11_mix 37 = .ok (.aload_n 0, 1) := by decide +kernel
theorem dX11_mix_38 : decode cX11_mix 38 = .ok (.getfield 104, 3) := by decide +kernel
theorem dX11_mix_41 : decode cX11_mix 41 = .ok (.iload_n 3, 1) := by decide +kernel
theorem dX11_mix_42 : decode cX11_mix 42 = .ok (.bipush 10, 2) := by decide +kernel
theorem dX11_mix_44 : decode cX11_mix 44 = .ok (.iadd, 1) := by decide +kernel
theorem dX11_mix_45 : decode cX11_mix 45 = .ok (.laload, 1) := by decide +kernel
theorem dX11_mix_46 : decode cX11_mix 46 = .ok (.lxor, 1) := by decide +kernel
theorem dX11_mix_47 : decode cX11_mix 47 = .ok (.aload_n 0, 1) := by decide +kernel
theorem dX11_mix_48 : decode cX11_mix 48 = .ok (.getfield 104, 3) := by decide +kernel
theorem dX11_mix_51 : decode cX11_mix 51 = .ok (.iload_n 3, 1) := by decide +kernel
theorem dX11_mix_52 : decode cX11_mix 52 = .ok (.bipush 15, 2) := by decide +kernel
theorem dX11_mix_54 : decode cX11_mix 54 = .ok (.iadd, 1) := by decide +kernel
theorem dX11_mix_55 : decode cX11_mix 55 = .ok (.laload, 1) := by decide +kernel
theorem dX11_mix_56 : decode cX11_mix 56 = .ok (.lxor, 1) := by decide +kernel
theorem dX11_mix_57 : decode cX11_mix 57 = .ok (.aload_n 0, 1) := by decide +kernel
theorem dX11_mix_58 : decode cX11_mix 58 = .ok (.getfield 104, 3) := by decide +kernel
theorem dX11_mix_61 : decode cX11_mix 61 = .ok (.iload_n 3, 1) := by decide +kernel
theorem dX11_mix_62 : decode cX11_mix 62 = .ok (.bipush 20, 2) := by decide +kernel
theorem dX11_mix_64 : decode cX11_mix 64 = .ok (.iadd, 1) := by decide +kernel
theorem dX11_mix_65 : decode cX11_mix 65 = .ok (.laload, 1) := by decide +kernel
theorem dX11_mix_66 : decode cX11_mix 66 = .ok (.lxor, 1) := by decide +kernel
theorem dX11_mix_67 : decode cX11_mix 67 = .ok (.lastore, 1) := by decide +kernel
theorem dX11_mix_68 : decode cX11_mix 68 = .ok (.iinc 3 1, 3) := by decide +kernel
theorem dX11_mix_71 : decode cX11_mix 71 = .ok (.goto (-59), 3) := by decide +kernel
theorem dX11_mix_74 : decode cX11_mix 74 = .ok (.iconst 0, 1) := by decide +kernel
theorem dX11_mix_75 : decode cX11_mix 75 = .ok (.istore_n 3, 1) := by decide +kernel
theorem dX11_mix_76 : decode cX11_mix 76 = .ok (.iload_n 3, 1) := by decide +kernel
theorem dX11_mix_77 : decode cX11_mix 77 = .ok (.iconst 5, 1) := by decide +kernel
theorem dX11_mix_78 : decode cX11_mix 78 = .ok (.if_icmp .ge 67, 3) := by decide +kernel
theorem dX11_mix_81 : decode cX11_mix 81 = .ok (.aload_n 0, 1) := by decide +kernel
theorem dX11_mix_82 : decode cX11_mix 82 = .ok (.getfield 111, 3) := by decide +kernel
theorem dX11_mix_85 : decode cX11_mix 85 = .ok (.iload_n 3, 1) := by decide +kernel
theorem dX11_mix_86 : decode cX11_mix 86 = .ok (.iconst 4, 1) := by decide +kernel
theorem dX11_mix_87 : decode cX11_mix 87 = .ok (.iadd, 1) := by decide +kernel
theorem dX11_mix_88 : decode cX11_mix 88 = .ok (.iconst 5, 1) := by decide +kernel
theorem dX11_mix_89 : decode cX11_mix 89 = .ok (.irem, 1) := by decide +kernel
theorem dX11_mix_90 : decode cX11_mix 90 = .ok (.laload, 1) := by decide +kernel
theorem dX11_mix_91 : decode cX11_mix 91 = .ok (.aload_n 0, 1) := by decide +kernel
theorem dX11_mix_92 : decode cX11_mix 92 = .ok (.getfield 111, 3) := by decide +kernel
theorem dX11_mix_95 : decode cX11_mix 95 = .ok (.iload_n 3, 1) := by decide +kernel
theorem dX11_mix_96 : decode cX11_mix 96 = .ok (.iconst 1, 1) := by decide +kernel
theorem dX11_mix_97 : decode cX11_mix 97 = .ok (.iadd, 1) := by decide +kernel
theorem dX11_mix_98 : decode cX11_mix 98 = .ok (.iconst 5, 1) := by decide +kernel
theorem dX11_mix_99 : decode cX11_mix 99 = .ok (.irem, 1) := by decide +kernel
theorem dX11_mix_100 : decode cX11_mix 100 = .ok (.laload, 1) := by decide +kernel
theorem dX11_mix_101 : decode cX11_mix 101 = .ok (.iconst 1, 1) := by decide +kernel
theorem dX11_mix_102 : decode cX11_mix 102 = .ok (.invokestatic 215, 3) := by decide +kernel
theorem dX11_mix_105 : decode cX11_mix 105 = .ok (.lxor, 1) := by decide +kernel
theorem dX11_mix_106 : decode cX11_mix 106 = .ok (.lstore 4, 2) := by decide +kernel
theorem dX11_mix_108 : decode cX11_mix 108 = .ok (.iconst 0, 1) := by decide +kernel
theorem dX11_mix_109 : decode cX11_mix 109 = .ok (.istore 6, 2) := by decide +kernel
theorem dX11_mix_111 : decode cX11_mix 111 = .ok (.iload 6, 2) := by decide +kernel
theorem dX11_mix_113 : decode cX11_mix 113 = .ok (.iconst 5, 1) := by decide +kernel
theorem dX11_mix_114 : decode cX11_mix 114 = .ok (.if_icmp .ge 25, 3) := by decide +kernel
theorem dX11_mix_117 : decode cX11_mix 117 = .ok (.aload_n 0, 1) := by decide +kernel
theorem dX11_mix_118 : decode cX11_mix 118 = .ok (.getfield 104, 3) := by decide +kernel
theorem dX11_mix_121 : decode cX11_mix 121 = .ok (.iload_n 3, 1) := by decide +kernel
theorem dX11_mix_122 : decode cX11_mix 122 = .ok (.iconst 5, 1) := by decide +kernel
theorem dX11_mix_123 : decode cX11_mix 123 = .ok (.iload 6, 2) := by decide +kernel
theorem dX11_mix_125 : decode cX11_mix 125 = .ok (.imul, 1) := by decide +kernel
theorem dX11_mix_126 : decode cX11_mix 126 = .ok (.iadd, 1) := by decide +kernel
theorem dX11_mix_127 : decode cX11_mix 127 = .ok (.dup2, 1) := by decide +kernel
theorem dX11_mix_128 : decode cX11_mix 128 = .ok (.laload, 1) := by decide +kernel
theorem dX11_mix_129 : decode cX11_mix 129 = .ok (.lload 4, 2) := by decide +kernel
theorem dX11_mix_131 : decode cX11_mix 131 = .ok (.lxor, 1) := by decide +kernel
theorem dX11_mix_132 : decode cX11_mix 132 = .ok (.lastore, 1) := by decide +kernel
theorem dX11_mix_133 : decode cX11_mix 133 = .ok (.iinc 6 1, 3) := by decide +kernel
theorem dX11_mix_136 : decode cX11_mix 136 = .ok (.goto (-25), 3) := by decide +kernel
theorem dX11_mix_139 : decode cX11_mix 139 = .ok (.iinc 3 1, 3) := by decide +kernel
theorem dX11_mix_142 : decode cX11_mix 142 = .ok (.goto (-66), 3) := by decide +kernel
theorem dX11_mix_145 : decode cX11_mix 145 = .ok (.iconst 0, 1) := by decide +kernel
theorem dX11_mix_146 : decode cX11_mix 146 = .ok (.istore_n 3, 1) := by decide +kernel
theorem dX11_mix_147 : decode cX11_mix 147 = .ok (.iload_n 3, 1) := by decide +kernel
theorem dX11_mix_148 : decode cX11_mix 148 = .ok (.iconst 5, 1) := by decide +kernel
theorem dX11_mix_149 : decode cX11_mix 149 = .ok (.if_icmp .ge 69, 3) := by decide +kernel
theorem dX11_mix_152 : decode cX11_mix 152 = .ok (.iconst 0, 1) := by decide +kernel
theorem dX11_mix_153 : decode cX11_mix 153 = .ok (.istore 4, 2) := by decide +kernel
theorem dX11_mix_155 : decode cX11_mix 155 = .ok (.iload 4, 2) := by decide +kernel
theorem dX11_mix_157 : decode cX11_mix 157 = .ok (.iconst 5, 1) := by decide +kernel
theorem dX11_mix_158 : decode cX11_mix 158 = .ok (.if_icmp .ge 54, 3) := by decide +kernel
theorem dX11_mix_161 : decode cX11_mix 161 = .ok (.aload_n 0, 1) := by decide +kernel
theorem dX11_mix_162 : decode cX11_mix 162 = .ok (.getfield 108, 3) := by decide +kernel
theorem dX11_mix_165 : decode cX11_mix 165 = .ok (.iload 4, 2) := by decide +kernel
theorem dX11_mix_167 : decode cX11_mix 167 = .ok (.iconst 5, 1) := by decide +kernel
theorem dX11_mix_168 : decode cX11_mix 168 = .ok (.iconst 2, 1) := by decide +kernel
theorem dX11_mix_169 : decode cX11_mix 169 = .ok (.iload_n 3, 1) := by decide +kernel
theorem dX11_mix_170 : decode cX11_mix 170 = .ok (.imul, 1) := by decide +kernel
theorem dX11_mix_171 : decode cX11_mix 171 = .ok (.iconst 3, 1) := by decide +kernel
theorem dX11_mix_172 : decode cX11_mix 172 = .ok (.iload 4, 2) := by decide +kernel
theorem dX11_mix_174 : decode cX11_mix 174 = .ok (.imul, 1) := by decide +kernel
theorem dX11_mix_175 : decode cX11_mix 175 = .ok (.iadd, 1) := by decide +kernel
theorem dX11_mix_176 : decode cX11_mix 176 = .ok (.iconst 5, 1) := by decide +kernel
theorem dX11_mix_177 : decode cX11_mix 177 = .ok (.irem, 1) := by decide +kernel
theorem dX11_mix_178 : decode cX11_mix 178 = .ok (.imul, 1) := by decide +kernel
theorem dX11_mix_179 : decode cX11_mix 179 = .ok (.iadd, 1) := by decide +kernel
theorem dX11_mix_180 : decode cX11_mix 180 = .ok (.aload_n 0, 1) := by decide +kernel
theorem dX11_mix_181 : decode cX11_mix 181 = .ok (.getfield 104, 3) := by decide +kernel
theorem dX11_mix_184 : decode cX11_mix 184 = .ok (.iload_n 3, 1) := by decide +kernel
theorem dX11_mix_185 : decode cX11_mix 185 = .ok (.iconst 5, 1) := by decide +kernel
theorem dX11_mix_186 : decode cX11_mix 186 = .ok (.iload 4, 2) := by decide +kernel
theorem dX11_mix_188 : decode cX11_mix 188 = .ok (.imul, 1) := by decide +kernel
theorem dX11_mix_189 : decode cX11_mix 189 = .ok (.iadd, 1) := by decide +kernel
theorem dX11_mix_190 : decode cX11_mix 190 = .ok (.laload, 1) := by decide +kernel
theorem dX11_mix_191 : decode cX11_mix 191 = .ok (.aload_n 0, 1) := by decide +kernel
theorem dX11_mix_192 : decode cX11_mix 192 = .ok (.getfield 114, 3) := by decide +kernel
theorem dX11_mix_195 : decode cX11_mix 195 = .ok (.iload_n 3, 1) := by decide +kernel
theorem dX11_mix_196 : decode cX11_mix 196 = .ok (.iconst 5, 1) := by decide +kernel
theorem dX11_mix_197 : decode cX11_mix 197 = .ok (.iload 4, 2) := by decide +kernel
theorem dX11_mix_199 : decode cX11_mix 199 = .ok (.imul, 1) := by decide +kernel
theorem dX11_mix_200 : decode cX11_mix 200 = .ok (.iadd, 1) := by decide +kernel
theorem dX11_mix_201 : decode cX11_mix 201 = .ok (.iaload, 1) := by decide +kernel
theorem dX11_mix_202 : decode cX11_mix 202 = .ok (.invokestatic 215, 3) := by decide +kernel
theorem dX11_mix_205 : decode cX11_mix 205 = .ok (.lastore, 1) := by decide +kernel
theorem dX11_mix_206 : decode cX11_mix 206 = .ok (.iinc 4 1, 3) := by decide +kernel
theorem dX11_mix_209 : decode cX11_mix 209 = .ok (.goto (-54), 3) := by decide +kernel
theorem dX11_mix_212 : decode cX11_mix 212 = .ok (.iinc 3 1, 3) := by decide +kernel
theorem dX11_mix_215 : decode cX11_mix 215 = .ok (.goto (-68), 3) := by decide +kernel
theorem dX11_mix_218 : decode cX11_mix 218 = .ok (.iconst 0, 1) := by decide +kernel
theorem dX11_mix_219 : decode cX11_mix 219 = .ok (.istore_n 3, 1) := by decide +kernel
theorem dX11_mix_220 : decode cX11_mix 220 = .ok (.iload_n 3, 1) := by decide +kernel
theorem dX11_mix_221 : decode cX11_mix 221 = .ok (.iconst 5, 1) := by decide +kernel
theorem dX11_mix_222 : decode cX11_mix 222 = .ok (.if_icmp .ge 82, 3) := by decide +kernel
theorem dX11_mix_225 : decode cX11_mix 225 = .ok (.iconst 0, 1) := by decide +kernel
theorem dX11_mix_226 : decode cX11_mix 226 = .ok (.istore 4, 2) := by decide +kernel
theorem dX11_mix_228 : decode cX11_mix 228 = .ok (.iload 4, 2) := by decide +kernel
theorem dX11_mix_230 : decode cX11_mix 230 = .ok (.iconst 5, 1) := by decide +kernel
theorem dX11_mix_231 : decode cX11_mix 231 = .ok (.if_icmp .ge 67, 3) := by decide +kernel
theorem dX11_mix_234 : decode cX11_mix 234 = .ok (.aload_n 0, 1) := by decide +kernel
theorem dX11_mix_235 : decode cX11_mix 235 = .ok (.getfield 104, 3) := by decide +kernel
theorem dX11_mix_238 : decode cX11_mix 238 = .ok (.iload_n 3, 1) := by decide +kernel
theorem dX11_mix_239 : decode cX11_mix 239 = .ok (.iconst 5, 1) := by decide +kernel
theorem dX11_mix_240 : decode cX11_mix 240 = .ok (.iload 4, 2) := by decide +kernel
theorem dX11_mix_242 : decode cX11_mix 242 = .ok (.imul, 1) := by decide +kernel
theorem dX11_mix_243 : decode cX11_mix 243 = .ok (.iadd, 1) := by decide +kernel
theorem dX11_mix_244 : decode cX11_mix 244 = .ok (.aload_n 0, 1) := by decide +kernel
theorem dX11_mix_245 : decode cX11_mix 245 = .ok (.getfield 108, 3) := by decide +kernel
theorem dX11_mix_248 : decode cX11_mix 248 = .ok (.iload_n 3, 1) := by decide +kernel
theorem dX11_mix_249 : decode cX11_mix 249 = .ok (.iconst 5, 1) := by decide +kernel
theorem dX11_mix_250 : decode cX11_mix 250 = .ok (.iload 4, 2) := by decide +kernel
theorem dX11_mix_252 : decode cX11_mix 252 = .ok (.imul, 1) := by decide +kernel
theorem dX11_mix_253 : decode cX11_mix 253 = .ok (.iadd, 1) := by decide +kernel
theorem dX11_mix_254 : decode cX11_mix 254 = .ok (.laload, 1) := by decide +kernel
theorem dX11_mix_255 : decode cX11_mix 255 = .ok (.aload_n 0, 1) := by decide +kernel
theorem dX11_mix_256 : decode cX11_mix 256 = .ok (.getfield 108, 3) := by decide +kernel
theorem dX11_mix_259 : decode cX11_mix 259 = .ok (.iload_n 3, 1) := by decide +kernel
theorem dX11_mix_260 : decode cX11_mix 260 = .ok (.iconst 1, 1) := by decide +kernel
theorem dX11_mix_261 : decode cX11_mix 261 = .ok (.iadd, 1) := by decide +kernel
theorem dX11_mix_262 : decode cX11_mix 262 = .ok (.iconst 5, 1) := by decide +kernel
theorem dX11_mix_263 : decode cX11_mix 263 = .ok (.irem, 1) := by decide +kernel
theorem dX11_mix_264 : decode cX11_mix 264 = .ok (.iconst 5, 1) := by decide +kernel
theorem dX11_mix_265 : decode cX11_mix 265 = .ok (.iload 4, 2) := by decide +kernel
theorem dX11_mix_267 : decode cX11_mix 267 = .ok (.imul, 1) := by decide +kernel
theorem dX11_mix_268 : decode cX11_mix 268 = .ok (.iadd, 1) := by decide +kernel
theorem dX11_mix_269 : decode cX11_mix 269 = .ok (.laload, 1) := by decide +kernel
theorem dX11_mix_270 : decode cX11_mix 270 = .ok (.ldc2_w 219, 3) := by decide +kernel
theorem dX11_mix_273 : decode cX11_mix 273 = .ok (.lxor, 1) := by decide +kernel
theorem dX11_mix_274 : decode cX11_mix 274 = .ok (.aload_n 0, 1) := by decide +kernel
theorem dX11_mix_275 : decode cX11_mix 275 = .ok (.getfield 108, 3) := by decide +kernel
theorem dX11_mix_278 : decode cX11_mix 278 = .ok (.iload_n 3, 1) := by decide +kernel
theorem dX11_mix_279 : decode cX11_mix 279 = .ok (.iconst 2, 1) := by decide +kernel
theorem dX11_mix_280 : decode cX11_mix 280 = .ok (.iadd, 1) := by decide +kernel
theorem dX11_mix_281 : decode cX11_mix 281 = .ok (.iconst 5, 1) := by decide +kernel
theorem dX11_mix_282 : decode cX11_mix 282 = .ok (.irem, 1) := by decide +kernel
theorem dX11_mix_283 : decode cX11_mix 283 = .ok (.iconst 5, 1) := by decide +kernel
theorem dX11_mix_284 : decode cX11_mix 284 = .ok (.iload 4, 2) := by decide +kernel
theorem dX11_mix_286 : decode cX11_mix 286 = .ok (.imul, 1) := by decide +kernel
theorem dX11_mix_287 : decode cX11_mix 287 = .ok (.iadd, 1) := by decide +kernel
theorem dX11_mix_288 : decode cX11_mix 288 = .ok (.laload, 1) := by decide +kernel
theorem dX11_mix_289 : decode cX11_mix 289 = .ok (.land, 1) := by decide +kernel
theorem dX11_mix_290 : decode cX11_mix 290 = .ok (.lxor, 1) := by decide +kernel
theorem dX11_mix_291 : decode cX11_mix 291 = .ok (.lastore, 1) := by decide +kernel
theorem dX11_mix_292 : decode cX11_mix 292 = .ok (.iinc 4 1, 3) := by decide +kernel
theorem dX11_mix_295 : decode cX11_mix 295 = .ok (.goto (-67), 3) := by decide +kernel
theorem dX11_mix_298 : decode cX11_mix 298 = .ok (.iinc 3 1, 3) := by decide +kernel
theorem dX11_mix_301 : decode cX11_mix 301 = .ok (.goto (-81), 3) := by decide +kernel
theorem dX11_mix_304 : decode cX11_mix 304 = .ok (.iconst 0, 1) := by decide +kernel
theorem dX11_mix_305 : decode cX11_mix 305 = .ok (.istore_n 3, 1) := by decide +kernel
theorem dX11_mix_306 : decode cX11_mix 306 = .ok (.iload_n 3, 1) := by decide +kernel
theorem dX11_mix_307 : decode cX11_mix 307 = .ok (.bipush 7, 2) := by decide +kernel
theorem dX11_mix_309 : decode cX11_mix 309 = .ok (.if_icmp .ge 57, 3) := by decide +kernel
theorem dX11_mix_312 : decode cX11_mix 312 = .ok (.aload_n 0, 1) := by decide +kernel
theorem dX11_mix_313 : decode cX11_mix 313 = .ok (.getfield 104, 3) := by decide +kernel
theorem dX11_mix_316 : decode cX11_mix 316 = .ok (.iconst 0, 1) := by decide +kernel
theorem dX11_mix_317 : decode cX11_mix 317 = .ok (.dup2, 1) := by decide +kernel
theorem dX11_mix_318 : decode cX11_mix 318 = .ok (.laload, 1) := by decide +kernel
theorem dX11_mix_319 : decode cX11_mix 319 = .ok (.iload_n 1, 1) := by decide +kernel
theorem dX11_mix_320 : decode cX11_mix 320 = .ok (.iconst 1, 1) := by decide +kernel
theorem dX11_mix_321 : decode cX11_mix 321 = .ok (.iand, 1) := by decide +kernel
theorem dX11_mix_322 : decode cX11_mix 322 = .ok (.iconst 1, 1) := by decide +kernel
theorem dX11_mix_323 : decode cX11_mix 323 = .ok (.if_icmp .ne 13, 3) := by decide +kernel
theorem dX11_mix_326 : decode cX11_mix 326 = .ok (.lconst 1, 1) := by decide +kernel
theorem dX11_mix_327 : decode cX11_mix 327 = .ok (.iconst 1, 1) := by decide +kernel
theorem dX11_mix_328 : decode cX11_mix 328 = .ok (.iload_n 3, 1) := by decide +kernel
theorem dX11_mix_329 : decode cX11_mix 329 = .ok (.ishl, 1) := by decide +kernel
theorem dX11_mix_330 : decode cX11_mix 330 = .ok (.iconst 1, 1) := by decide +kernel
theorem dX11_mix_331 : decode cX11_mix 331 = .ok (.isub, 1) := by decide +kernel
theorem dX11_mix_332 : decode cX11_mix 332 = .ok (.lshl, 1) := by decide +kernel
theorem dX11_mix_333 : decode cX11_mix 333 = .ok (.goto 4, 3) := by decide +kernel
theorem dX11_mix_336 : decode cX11_mix 336 = .ok (.lconst 0, 1) := by decide +kernel
theorem dX11_mix_337 : decode cX11_mix 337 = .ok (.lxor, 1) := by decide +kernel
theorem dX11_mix_338 : decode cX11_mix 338 = .ok (.lastore, 1) := by decide +kernel
theorem dX11_mix_339 : decode cX11_mix 339 = .ok (.iload_n 1, 1) := by decide +kernel
theorem dX11_mix_340 : decode cX11_mix 340 = .ok (.iconst 1, 1) := by decide +kernel
theorem dX11_mix_341 : decode cX11_mix 341 = .ok (.ishl, 1) := by decide +kernel
theorem dX11_mix_342 : decode cX11_mix 342 = .ok (.istore_n 1, 1) := by decide +kernel
theorem dX11_mix_343 : decode cX11_mix 343 = .ok (.iload_n 1, 1) := by decide +kernel
theorem dX11_mix_344 : decode cX11_mix 344 = .ok (.iload_n 1, 1) := by decide +kernel
theorem dX11_mix_345 : decode cX11_mix 345 = .ok (.sipush 256, 3) := by decide +kernel
theorem dX11_mix_348 : decode cX11_mix 348 = .ok (.if_icmp .lt 9, 3) := by decide +kernel
theorem dX11_mix_351 : decode cX11_mix 351 = .ok (.sipush 369, 3) := by decide +kernel
theorem dX11_mix_354 : decode cX11_mix 354 = .ok (.goto 4, 3) := by decide +kernel
theorem dX11_mix_357 : decode cX11_mix 357 = .ok (.iconst 0, 1) := by decide +kernel
theorem dX11_mix_358 : decode cX11_mix 358 = .ok (.ixor, 1) := by decide +kernel
theorem dX11_mix_359 : decode cX11_mix 359 = .ok (.istore_n 1, 1) := by decide +kernel
theorem dX11_mix_360 : decode cX11_mix 360 = .ok (.iinc 3 1, 3) := by decide +kernel
theorem dX11_mix_363 : decode cX11_mix 363 = .ok (.goto (-57), 3) := by decide +kernel
theorem dX11_mix_366 : decode cX11_mix 366 = .ok (.iinc 2 1, 3) := by decide +kernel
theorem dX11_mix_369 : decode cX11_mix 369 = .ok (.goto (-365), 3) := by decide +kernel
theorem dX11_mix_372 : decode cX11_mix 372 = .ok (.return_, 1) := by decide +kernel
set_option maxRecDepth 20000 in
theorem ggX11_hashLanes_X11_lay : GoodIn wsX11_hashLanes wsX11_lay := goodIn_r _ [10, 2, 1, 22, 23, 24, 25, 26, 27, 28, 29, 30, 31, 32, 33, 34, 35, 36, 37, 38, 39, 40, 41, 42, 43, 44, 45, 46, 47, 48, 49, 50, 51, 52, 53, 54, 55, 56, 57, 58, 59, 60, 61, 62, 63, 64] (by decide +kernel) (by decide +kernel)
set_option maxRecDepth 20000 in
theorem gX11_hashLanes_X11_lay : GoodIn wsX11_hashLanes (wsV RX11 198 RX11 yX11_lay wsX11_lay) := goodIn_app (goodIn_of _ (by decide +kernel)) ggX11_hashLanes_X11_lay
set_option maxRecDepth 20000 in
theorem ggX11_hashLanes_X11_mix : GoodIn wsX11_hashLanes wsX11_mix := goodIn_r _ [14, 15, 3, 16, 17, 18, 19, 20, 9, 21, 22, 23, 24, 25, 26, 27, 28, 29, 30, 31, 32, 33, 34, 35, 36, 37, 38, 39, 40, 41, 42, 43, 44, 45, 46, 47, 48, 49, 50, 51, 52, 53, 54, 55, 56, 57, 58, 59, 60, 61, 62, 63, 64] (by decide +kernel) (by decide +kernel)
set_option maxRecDepth 20000 in
theorem gX11_hashLanes_X11_mix : GoodIn wsX11_hashLanes (wsV RX11 223 RX11 yX11_mix wsX11_mix) := goodIn_app (goodIn_of _ (by decide +kernel)) ggX11_hashLanes_X11_mix
theorem dX11_hashLanes_0 : decode cX11_hashLanes 0 = .ok (.aload_n 0, 1) := by decide +kernel
theorem dX11_hashLanes_1 : decode cX11_hashLanes 1 = .ok (.bipush 31, 2) := by decide +kernel
theorem dX11_hashLanes_3 : decode cX11_hashLanes 3 = .ok (.invokevirtual 198, 3) := by decide +kernel
theorem dX11_hashLanes_6 : decode cX11_hashLanes 6 = .ok (.aload_n 0, 1) := by decide +kernel
theorem dX11_hashLanes_7 : decode cX11_hashLanes 7 = .ok (.getfield 195, 3) := by decide +kernel
theorem dX11_hashLanes_10 : decode cX11_hashLanes 10 = .ok (.sipush 136, 3) := by decide +kernel
theorem dX11_hashLanes_13 : decode cX11_hashLanes 13 = .ok (.irem, 1) := by decide +kernel
theorem dX11_hashLanes_14 : decode cX11_hashLanes 14 = .ok (.ifCond .eq 11, 3) := by decide +kernel
theorem dX11_hashLanes_17 : decode cX11_hashLanes 17 = .ok (.aload_n 0, 1) := by decide +kernel
theorem dX11_hashLanes_18 : decode cX11_hashLanes 18 = .ok (.iconst 0, 1) := by decide +kernel
theorem dX11_hashLanes_19 : decode cX11_hashLanes 19 = .ok (.invokevirtual 198, 3) := by decide +kernel
theorem dX11_hashLanes_22 : decode cX11_hashLanes 22 = .ok (.goto (-16), 3) := by decide +kernel
theorem dX11_hashLanes_25 : decode cX11_hashLanes 25 = .ok (.aload_n 0, 1) := by decide +kernel
theorem dX11_hashLanes_26 : decode cX11_hashLanes 26 = .ok (.getfield 13, 3) := by decide +kernel
theorem dX11_hashLanes_29 : decode cX11_hashLanes 29 = .ok (.aload_n 0, 1) := by decide +kernel
theorem dX11_hashLanes_30 : decode cX11_hashLanes 30 = .ok (.getfield 195, 3) := by decide +kernel
theorem dX11_hashLanes_33 : decode cX11_hashLanes 33 = .ok (.iconst 1, 1) := by decide +kernel
theorem dX11_hashLanes_34 : decode cX11_hashLanes 34 = .ok (.isub, 1) := by decide +kernel
theorem dX11_hashLanes_35 : decode cX11_hashLanes 35 = .ok (.dup2, 1) := by decide +kernel
theorem dX11_hashLanes_36 : decode cX11_hashLanes 36 = .ok (.baload, 1) := by decide +kernel
theorem dX11_hashLanes_37 : decode cX11_hashLanes 37 = .ok (.bipush (-128), 2) := by decide +kernel
theorem dX11_hashLanes_39 : decode cX11_hashLanes 39 = .ok (.ixor, 1) := by decide +kernel
theorem dX11_hashLanes_40 : decode cX11_hashLanes 40 = .ok (.i2b, 1) := by decide +kernel
theorem dX11_hashLanes_41 : decode cX11_hashLanes 41 = .ok (.bastore, 1) := by decide +kernel
theorem dX11_hashLanes_42 : decode cX11_hashLanes 42 = .ok (.iconst 0, 1) := by decide +kernel
theorem dX11_hashLanes_43 : decode cX11_hashLanes 43 = .ok (.istore_n 1, 1) := by decide +kernel
theorem dX11_hashLanes_44 : decode cX11_hashLanes 44 = .ok (.iload_n 1, 1) := by decide +kernel
theorem dX11_hashLanes_45 : decode cX11_hashLanes 45 = .ok (.bipush 25, 2) := by decide +kernel
theorem dX11_hashLanes_47 : decode cX11_hashLanes 47 = .ok (.if_icmp .ge 16, 3) := by decide +kernel
theorem dX11_hashLanes_50 : decode cX11_hashLanes 50 = .ok (.aload_n 0, 1) := by decide +kernel
theorem dX11_hashLanes_51 : decode cX11_hashLanes 51 = .ok (.getfield 104, 3) := by decide +kernel
theorem dX11_hashLanes_54 : decode cX11_hashLanes 54 = .ok (.iload_n 1, 1) := by decide +kernel
theorem dX11_hashLanes_55 : decode cX11_hashLanes 55 = .ok (.lconst 0, 1) := by decide +kernel
theorem dX11_hashLanes_56 : decode cX11_hashLanes 56 = .ok (.lastore, 1) := by decide +kernel
theorem dX11_hashLanes_57 : decode cX11_hashLanes 57 = .ok (.iinc 1 1, 3) := by decide +kernel
theorem dX11_hashLanes_60 : decode cX11_hashLanes 60 = .ok (.goto (-16), 3) := by decide +kernel
theorem dX11_hashLanes_63 : decode cX11_hashLanes 63 = .ok (.iconst 0, 1) := by decide +kernel
theorem dX11_hashLanes_64 : decode cX11_hashLanes 64 = .ok (.istore_n 1, 1) := by decide +kernel
theorem dX11_hashLanes_65 : decode cX11_hashLanes 65 = .ok (.iload_n 1, 1) := by decide +kernel
theorem dX11_hashLanes_66 : decode cX11_hashLanes 66 = .ok (.aload_n 0, 1) := by decide +kernel
theorem dX11_hashLanes_67 : decode cX11_hashLanes 67 = .ok (.getfield 195, 3) := by decide +kernel
theorem dX11_hashLanes_70 : decode cX11_hashLanes 70 = .ok (.if_icmp .ge 64, 3) := by decide +kernel
theorem dX11_hashLanes_73 : decode cX11_hashLanes 73 = .ok (.iconst 0, 1) := by decide +kernel
theorem dX11_hashLanes_74 : decode cX11_hashLanes 74 = .ok (.istore_n 2, 1) := by decide +kernel
theorem dX11_hashLanes_75 : decode cX11_hashLanes 75 = .ok (.iload_n 2, 1) := by decide +kernel
theorem dX11_hashLanes_76 : decode cX11_hashLanes 76 = .ok (.sipush 136, 3) := by decide +kernel
theorem dX11_hashLanes_79 : decode cX11_hashLanes 79 = .ok (.if_icmp .ge 42, 3) := by decide +kernel
theorem dX11_hashLanes_82 : decode cX11_hashLanes 82 = .ok (.aload_n 0, 1) := by decide +kernel
theorem dX11_hashLanes_83 : decode cX11_hashLanes 83 = .ok (.getfield 104, 3) := by decide +kernel
theorem dX11_hashLanes_86 : decode cX11_hashLanes 86 = .ok (.iload_n 2, 1) := by decide +kernel
theorem dX11_hashLanes_87 : decode cX11_hashLanes 87 = .ok (.bipush 8, 2) := by decide +kernel
theorem dX11_hashLanes_89 : decode cX11_hashLanes 89 = .ok (.idiv, 1) := by decide +kernel
theorem dX11_hashLanes_90 : decode cX11_hashLanes 90 = .ok (.dup2, 1) := by decide +kernel
theorem dX11_hashLanes_91 : decode cX11_hashLanes 91 = .ok (.laload, 1) := by decide +kernel
theorem dX11_hashLanes_92 : decode cX11_hashLanes 92 = .ok (.aload_n 0, 1) := by decide +kernel
theorem dX11_hashLanes_93 : decode cX11_hashLanes 93 = .ok (.getfield 13, 3) := by decide +kernel
theorem dX11_hashLanes_96 : decode cX11_hashLanes 96 = .ok (.iload_n 1, 1) := by decide +kernel
theorem dX11_hashLanes_97 : decode cX11_hashLanes 97 = .ok (.iload_n 2, 1) := by decide +kernel
theorem dX11_hashLanes_98 : decode cX11_hashLanes 98 = .ok (.iadd, 1) := by decide +kernel
theorem dX11_hashLanes_99 : decode cX11_hashLanes 99 = .ok (.baload, 1) := by decide +kernel
theorem dX11_hashLanes_100 : decode cX11_hashLanes 100 = .ok (.i2l, 1) := by decide +kernel
theorem dX11_hashLanes_101 : decode cX11_hashLanes 101 = .ok (.ldc2_w 221, 3) := by decide +kernel
theorem dX11_hashLanes_104 : decode cX11_hashLanes 104 = .ok (.land, 1) := by decide +kernel
theorem dX11_hashLanes_105 : decode cX11_hashLanes 105 = .ok (.bipush 8, 2) := by decide +kernel
theorem dX11_hashLanes_107 : decode cX11_hashLanes 107 = .ok (.iload_n 2, 1) := by decide +kernel
theorem dX11_hashLanes_108 : decode cX11_hashLanes 108 = .ok (.bipush 8, 2) := by decide +kernel
theorem dX11_hashLanes_110 : decode cX11_hashLanes 110 = .ok (.irem, 1) := by decide +kernel
theorem dX11_hashLanes_111 : decode cX11_hashLanes 111 = .ok (.imul, 1) := by decide +kernel
theorem dX11_hashLanes_112 : decode cX11_hashLanes 112 = .ok (.lshl, 1) := by decide +kernel
theorem dX11_hashLanes_113 : decode cX11_hashLanes 113 = .ok (.lxor, 1) := by decide +kernel
theorem dX11_hashLanes_114 : decode cX11_hashLanes 114 = .ok (.lastore, 1) := by decide +kernel
theorem dX11_hashLanes_115 : decode cX11_hashLanes 115 = .ok (.iinc 2 1, 3) := by decide +kernel
theorem dX11_hashLanes_118 : decode cX11_hashLanes 118 = .ok (.goto (-43), 3) := by decide +kernel
theorem dX11_hashLanes_121 : decode cX11_hashLanes 121 = .ok (.aload_n 0, 1) := by decide +kernel
theorem dX11_hashLanes_122 : decode cX11_hashLanes 122 = .ok (.invokevirtual 223, 3) := by decide +kernel
theorem dX11_hashLanes_125 : decode cX11_hashLanes 125 = .ok (.iinc 1 136, 6) := by decide +kernel
theorem dX11_hashLanes_131 : decode cX11_hashLanes 131 = .ok (.goto (-66), 3) := by decide +kernel
theorem dX11_hashLanes_134 : decode cX11_hashLanes 134 = .ok (.iconst 0, 1) := by decide +kernel
theorem dX11_hashLanes_135 : decode cX11_hashLanes 135 = .ok (.istore_n 1, 1) := by decide +kernel
theorem dX11_hashLanes_136 : decode cX11_hashLanes 136 = .ok (.iload_n 1, 1) := by decide +kernel
theorem dX11_hashLanes_137 : decode cX11_hashLanes 137 = .ok (.bipush 32, 2) := by decide +kernel
theorem dX11_hashLanes_139 : decode cX11_hashLanes 139 = .ok (.if_icmp .ge 34, 3) := by decide +kernel
theorem dX11_hashLanes_142 : decode cX11_hashLanes 142 = .ok (.aload_n 0, 1) := by decide +kernel
theorem dX11_hashLanes_143 : decode cX11_hashLanes 143 = .ok (.getfield 16, 3) := by decide +kernel
theorem dX11_hashLanes_146 : decode cX11_hashLanes 146 = .ok (.iload_n 1, 1) := by decide +kernel
theorem dX11_hashLanes_147 : decode cX11_hashLanes 147 = .ok (.aload_n 0, 1) := by decide +kernel
theorem dX11_hashLanes_148 : decode cX11_hashLanes 148 = .ok (.getfield 104, 3) := by decide +kernel
theorem dX11_hashLanes_151 : decode cX11_hashLanes 151 = .ok (.iload_n 1, 1) := by decide +kernel
theorem dX11_hashLanes_152 : decode cX11_hashLanes 152 = .ok (.bipush 8, 2) := by decide +kernel
theorem dX11_hashLanes_154 : decode cX11_hashLanes 154 = .ok (.idiv, 1) := by decide +kernel
theorem dX11_hashLanes_155 : decode cX11_hashLanes 155 = .ok (.laload, 1) := by decide +kernel
theorem dX11_hashLanes_156 : decode cX11_hashLanes 156 = .ok (.bipush 8, 2) := by decide +kernel
theorem dX11_hashLanes_158 : decode cX11_hashLanes 158 = .ok (.iload_n 1, 1) := by decide +kernel
theorem dX11_hashLanes_159 : decode cX11_hashLanes 159 = .ok (.bipush 8, 2) := by decide +kernel
theorem dX11_hashLanes_161 : decode cX11_hashLanes 161 = .ok (.irem, 1) := by decide +kernel
theorem dX11_hashLanes_162 : decode cX11_hashLanes 162 = .ok (.imul, 1) := by decide +kernel
theorem dX11_hashLanes_163 : decode cX11_hashLanes 163 = .ok (.lshr, 1) := by decide +kernel
theorem dX11_hashLanes_164 : decode cX11_hashLanes 164 = .ok (.l2i, 1) := by decide +kernel
theorem dX11_hashLanes_165 : decode cX11_hashLanes 165 = .ok (.i2b, 1) := by decide +kernel
theorem dX11_hashLanes_166 : decode cX11_hashLanes 166 = .ok (.bastore, 1) := by decide +kernel
theorem dX11_hashLanes_167 : decode cX11_hashLanes 167 = .ok (.iinc 1 1, 3) := by decide +kernel
theorem dX11_hashLanes_170 : decode cX11_hashLanes 170 = .ok (.goto (-34), 3) := by decide +kernel
theorem dX11_hashLanes_173 : decode cX11_hashLanes 173 = .ok (.return_, 1) := by decide +kernel
set_option maxHeartbeats 1000000 in
set_option maxRecDepth 100000 in
/-- the reference: left -/
theorem c_left (l : Launch) (g : jG) (x : Int64) (t : Int32)  : jC l g yX11_left wsX11_left ({ frames := 0, cells := 0, slots := 0, locals := 0 } : Room) [.long x, .int t] [] (fun u : Unit => some (.long (lft x t))) (fun u : Unit => True) (fun u : Unit => []) := by
  refine jC.of (cc := cX11_left) (own := RX11) (maxL := 3) (ret := (some .long)) (by decide +kernel) rfl rfl (Nat.le_of_ble_eq_true rfl) (fun u hu => rfl) ?_
  intro p e s m below meth c A Q hX hret
  refine j_iload_n hX 1 dX11_left_0 rfl ?_
  refine j_if_ne hX 8 dX11_left_1 (by decide) (fun b_1 => ?_) (fun b_1 => ?_)
  · skip
    refine j_lload_n hX 0 dX11_left_8 rfl ?_
    refine j_iload_n hX 1 dX11_left_9 rfl ?_
    refine j_lshl hX dX11_left_10 ?_
    refine j_lload_n hX 0 dX11_left_11 rfl ?_
    refine j_bipush hX (64) dX11_left_12 (by decide) ?_
    refine j_pc 14 rfl ?_
    refine j_iload_n hX 1 dX11_left_14 rfl ?_
    refine j_isub hX dX11_left_15 ?_
    refine j_lushr hX dX11_left_16 ?_
    refine j_lor hX dX11_left_17 ?_
    refine j_topeql _ (lft x t) (by unfold lft; first | rw [if_pos b_1] | rw [if_neg b_1]) ?_
    exact hret () trivial 18 _ .lreturn dX11_left_18 rfl
  · skip
    refine j_lload_n hX 0 dX11_left_4 rfl ?_
    refine j_goto hX 18 dX11_left_5 (by decide) ?_
    refine j_topeql _ (lft x t) (by unfold lft; first | rw [if_pos b_1] | rw [if_neg b_1]) ?_
    exact hret () trivial 18 _ .lreturn dX11_left_18 rfl

set_option maxHeartbeats 1000000 in
set_option maxRecDepth 100000 in
/-- the reference: mix -/
theorem c_mix (l : Launch) (g : jG) (h : Nat) (b : Nat → Nat) (v : Nat → Int32) (A0 : Nat → Int64) (T0 : Nat → Int64) (S0 : Nat → Int64) (tn : Nat → Int32) (htn : ∀ k, k < 25 → tn k = s_turns.getD k 0) : jC l g yX11_mix wsX11_mix ({ frames := 1, cells := 0, slots := 0, locals := 22 } : Room) [.ref h] [oB h 11 (mO b v), lA g (b 9) 25 A0, lA g (b 10) 25 T0, lA g (b 11) 5 S0, iA g (b 12) 25 tn] (fun u : (Nat → Int64) × (Nat → Int64) × (Nat → Int64) => none) (fun u : (Nat → Int64) × (Nat → Int64) × (Nat → Int64) => eq25 u.1 (kF A0 24)) (fun u : (Nat → Int64) × (Nat → Int64) × (Nat → Int64) => [oB h 11 (mO b v), lA g (b 9) 25 u.1, lA g (b 10) 25 u.2.1, lA g (b 11) 5 u.2.2, iA g (b 12) 25 tn]) := by
  refine jC.of (cc := cX11_mix) (own := RX11) (maxL := 7) (ret := none) (by decide +kernel) rfl rfl (Nat.le_of_ble_eq_true rfl) (fun u hu => rfl) ?_
  intro p e s m below meth c A Q hX hret
  have in11 : ∀ w ∈ wsX110, w ∈ wsX11_mix := (fun w h => List.mem_cons_of_mem _ (List.mem_append_right _ h))
  refine j_iconst hX (1) dX11_mix_0 (by decide) ?_
  refine j_st [.int (nI 1)] rfl ?_
  refine j_istore_n hX 1 [(1, .int (nI 1)), (0, .ref h)] dX11_mix_1 rfl (by decide) rfl ?_
  refine j_iconst hX (0) dX11_mix_2 (by decide) ?_
  refine j_st [.int (nI 0)] rfl ?_
  refine j_istore_n hX 2 [(2, .int (nI 0)), (1, .int (nI 1)), (0, .ref h)] dX11_mix_3 rfl (by decide) rfl ?_
  have lp_1 : ∀ (n_2 : Nat) (r : Nat) (mm : Nat) (AL : Nat → Int64) (TL : Nat → Int64) (SL : Nat → Int64), (24 - r < n_2) → (r ≤ 24) → (mm = 7 * r) → (eq25 AL (kF A0 r)) → J p l e ({ frames := 1, cells := 0, slots := 0, locals := 22 } : Room) s m ([.ref h] : List Value).toArray below meth c g A 7 Q 0 0 [oB h 11 (mO b v), lA g (b 9) 25 AL, lA g (b 10) 25 TL, lA g (b 11) 5 SL, iA g (b 12) 25 tn] [(0, .ref h), (1, .int (lfI mm)), (2, .int (nI r))] 4 [] := by
    intro n_2
    induction n_2 with
    | zero => intro r mm AL TL SL hm; exact absurd hm (Nat.not_lt_zero _)
    | succ n_2 ih_3 =>
      intro r mm AL TL SL hm hr hm7 hA
      refine j_iload_n hX 2 dX11_mix_4 rfl ?_
      refine j_bipush hX (24) dX11_mix_5 (by decide) ?_
      refine j_icmp_geN hX r 24 372 dX11_mix_7 (by decide) (by omega) (by omega) (fun b_7 => ?_) (fun b_7 => ?_)
      · skip
        refine j_pc 372 rfl ?_
        exact hret (AL, TL, SL) (by obtain rfl : r = 24 := (by omega); exact hA) 372 _ .return_ dX11_mix_372 rfl
      · skip
        refine j_iconst hX (0) dX11_mix_10 (by decide) ?_
        refine j_st [.int (nI 0)] rfl ?_
        refine j_istore_n hX 3 [(3, .int (nI 0)), (0, .ref h), (1, .int (lfI mm)), (2, .int (nI r))] dX11_mix_11 rfl (by decide) rfl ?_
        have lp_4 : ∀ (n_5 : Nat) (x : Nat) (SL : Nat → Int64), (5 - x < n_5) → (x ≤ 5) → (∀ j, j < x → SL j = kC AL j) → J p l e ({ frames := 1, cells := 0, slots := 0, locals := 22 } : Room) s m ([.ref h] : List Value).toArray below meth c g A 7 Q 0 0 [oB h 11 (mO b v), lA g (b 9) 25 AL, lA g (b 10) 25 TL, lA g (b 11) 5 SL, iA g (b 12) 25 tn] [(0, .ref h), (1, .int (lfI mm)), (2, .int (nI r)), (3, .int (nI x))] 12 [] := by
          intro n_5
          induction n_5 with
          | zero => intro x SL hm; exact absurd hm (Nat.not_lt_zero _)
          | succ n_5 ih_6 =>
            intro x SL hm hx hS
            refine j_iload_n hX 3 dX11_mix_12 rfl ?_
            refine j_iconst hX (5) dX11_mix_13 (by decide) ?_
            refine j_icmp_geN hX x 5 74 dX11_mix_14 (by decide) (by omega) (by omega) (fun b_14 => ?_) (fun b_14 => ?_)
            · skip
              have hS5 : ∀ j, j < 5 → SL j = kC AL j := fun j hj => hS j (by omega)
              refine j_iconst hX (0) dX11_mix_74 (by decide) ?_
              refine j_st [.int (nI 0)] rfl ?_
              refine j_istore_n hX 3 [(3, .int (nI 0)), (0, .ref h), (1, .int (lfI mm)), (2, .int (nI r))] dX11_mix_75 rfl (by decide) rfl ?_
              have lp_7 : ∀ (n_8 : Nat) (x : Nat) (G : Nat → Int64), (5 - x < n_8) → (x ≤ 5) → (∀ k, k < 25 → G k = if k % 5 < x then kT AL k else AL k) → J p l e ({ frames := 1, cells := 0, slots := 0, locals := 22 } : Room) s m ([.ref h] : List Value).toArray below meth c g A 7 Q 0 0 [oB h 11 (mO b v), lA g (b 9) 25 G, lA g (b 10) 25 TL, lA g (b 11) 5 SL, iA g (b 12) 25 tn] [(0, .ref h), (1, .int (lfI mm)), (2, .int (nI r)), (3, .int (nI x))] 76 [] := by
                intro n_8
                induction n_8 with
                | zero => intro x G hm; exact absurd hm (Nat.not_lt_zero _)
                | succ n_8 ih_9 =>
                  intro x G hm hx hG
                  refine j_pc 76 rfl ?_
                  refine j_iload_n hX 3 dX11_mix_76 rfl ?_
                  refine j_iconst hX (5) dX11_mix_77 (by decide) ?_
                  refine j_icmp_geN hX x 5 145 dX11_mix_78 (by decide) (by omega) (by omega) (fun b_78 => ?_) (fun b_78 => ?_)
                  · skip
                    have hT1 : eq25 G (kT AL) := fun k hk => by rw [hG k hk, if_pos (by omega)]
                    refine j_iconst hX (0) dX11_mix_145 (by decide) ?_
                    refine j_st [.int (nI 0)] rfl ?_
                    refine j_istore_n hX 3 [(3, .int (nI 0)), (0, .ref h), (1, .int (lfI mm)), (2, .int (nI r))] dX11_mix_146 rfl (by decide) rfl ?_
                    have lp_10 : ∀ (n_11 : Nat) (x : Nat) (TT : Nat → Int64), (5 - x < n_11) → (x ≤ 5) → (∀ k, k < 25 → (k % 5 < x) → TT (kTgt k) = rlc (G k) (s_turns.getD k 0)) → J p l e ({ frames := 1, cells := 0, slots := 0, locals := 22 } : Room) s m ([.ref h] : List Value).toArray below meth c g A 7 Q 0 0 [oB h 11 (mO b v), lA g (b 9) 25 G, lA g (b 10) 25 TT, lA g (b 11) 5 SL, iA g (b 12) 25 tn] [(0, .ref h), (1, .int (lfI mm)), (2, .int (nI r)), (3, .int (nI x))] 147 [] := by
                      intro n_11
                      induction n_11 with
                      | zero => intro x TT hm; exact absurd hm (Nat.not_lt_zero _)
                      | succ n_11 ih_12 =>
                        intro x TT hm hx hR
                        refine j_iload_n hX 3 dX11_mix_147 rfl ?_
                        refine j_iconst hX (5) dX11_mix_148 (by decide) ?_
                        refine j_icmp_geN hX x 5 218 dX11_mix_149 (by decide) (by omega) (by omega) (fun b_149 => ?_) (fun b_149 => ?_)
                        · skip
                          have hTB : eq25 TT (kB (kT AL)) := fun j hj => by have h1 := hR (kSrc j) (kSrc_lt j hj) (by have := kSrc_lt j hj; omega); rw [tgt_src j hj] at h1; rw [h1, hT1 _ (kSrc_lt j hj)]; rfl
                          refine j_pc 218 rfl ?_
                          refine j_iconst hX (0) dX11_mix_218 (by decide) ?_
                          refine j_st [.int (nI 0)] rfl ?_
                          refine j_istore_n hX 3 [(3, .int (nI 0)), (0, .ref h), (1, .int (lfI mm)), (2, .int (nI r))] dX11_mix_219 rfl (by decide) rfl ?_
                          have lp_13 : ∀ (n_14 : Nat) (x : Nat) (G4 : Nat → Int64), (5 - x < n_14) → (x ≤ 5) → (∀ k, k < 25 → (k % 5 < x) → G4 k = kX (kB (kT AL)) k) → J p l e ({ frames := 1, cells := 0, slots := 0, locals := 22 } : Room) s m ([.ref h] : List Value).toArray below meth c g A 7 Q 0 0 [oB h 11 (mO b v), lA g (b 9) 25 G4, lA g (b 10) 25 TT, lA g (b 11) 5 SL, iA g (b 12) 25 tn] [(0, .ref h), (1, .int (lfI mm)), (2, .int (nI r)), (3, .int (nI x))] 220 [] := by
                            intro n_14
                            induction n_14 with
                            | zero => intro x G4 hm; exact absurd hm (Nat.not_lt_zero _)
                            | succ n_14 ih_15 =>
                              intro x G4 hm hx hC
                              refine j_iload_n hX 3 dX11_mix_220 rfl ?_
                              refine j_iconst hX (5) dX11_mix_221 (by decide) ?_
                              refine j_icmp_geN hX x 5 304 dX11_mix_222 (by decide) (by omega) (by omega) (fun b_222 => ?_) (fun b_222 => ?_)
                              · skip
                                have hX4 : eq25 G4 (kX (kB (kT AL))) := fun k hk => hC k hk (by omega)
                                refine j_iconst hX (0) dX11_mix_304 (by decide) ?_
                                refine j_st [.int (nI 0)] rfl ?_
                                refine j_istore_n hX 3 [(3, .int (nI 0)), (0, .ref h), (1, .int (lfI mm)), (2, .int (nI r))] dX11_mix_305 rfl (by decide) rfl ?_
                                have lp_16 : ∀ (n_17 : Nat) (j : Nat) (mj : Nat) (G5 : Nat → Int64), (7 - j < n_17) → (j ≤ 7) → (mj = mm + j) → (G5 0 = xw (kX (kB (kT AL)) 0) mm j) → (∀ k, 0 < k → k < 25 → G5 k = kX (kB (kT AL)) k) → J p l e ({ frames := 1, cells := 0, slots := 0, locals := 22 } : Room) s m ([.ref h] : List Value).toArray below meth c g A 7 Q 0 0 [oB h 11 (mO b v), lA g (b 9) 25 G5, lA g (b 10) 25 TT, lA g (b 11) 5 SL, iA g (b 12) 25 tn] [(0, .ref h), (1, .int (lfI mj)), (2, .int (nI r)), (3, .int (nI j))] 306 [] := by
                                  intro n_17
                                  induction n_17 with
                                  | zero => intro j mj G5 hm; exact absurd hm (Nat.not_lt_zero _)
                                  | succ n_17 ih_18 =>
                                    intro j mj G5 hm hj hmj h0 hk5
                                    refine j_iload_n hX 3 dX11_mix_306 rfl ?_
                                    refine j_pc 307 rfl ?_
                                    refine j_bipush hX (7) dX11_mix_307 (by decide) ?_
                                    refine j_icmp_geN hX j 7 366 dX11_mix_309 (by decide) (by omega) (by omega) (fun b_309 => ?_) (fun b_309 => ?_)
                                    · skip
                                      refine j_iincN hX r (r + 1) [(2, .int (nI (r + 1))), (0, .ref h), (1, .int (lfI mj)), (3, .int (nI j))] 2 dX11_mix_366 rfl (nI_1 _) (by decide) rfl ?_
                                      refine j_goto hX 4 dX11_mix_369 (by decide) ?_
                                      refine j_perm [(0, .ref h), (1, .int (lfI mj)), (2, .int (nI (r + 1)))] [1, 2, 0] rfl ?_
                                      exact ih_3 (r + 1) mj G5 TT SL (by omega) (by omega) (by omega) (by have hj7 : j = 7 := (by omega); subst hj7; subst hm7; intro k hk; show G5 k = kR (kF A0 r) (s_round.getD r 0) k; rw [← kR_congr hA _ k hk]; unfold kR; by_cases hk0 : k = 0; (rw [if_pos hk0, hk0, h0, rc_ok _ r (by omega)]); (rw [if_neg hk0]; exact hk5 k (by omega) hk))
                                    · skip
                                      refine j_aload_n hX 0 dX11_mix_312 rfl ?_
                                      refine j_get hX in11 11 0 9 (v := .ref (b 9)) rfl rfl (by decide) (List.mem_of_getElem? (i := 2) rfl) rfl rfl dX11_mix_313 ?_
                                      refine j_iconst hX (0) dX11_mix_316 (by decide) ?_
                                      refine j_dup2 hX dX11_mix_317 rfl rfl ?_
                                      refine j_pc 318 rfl ?_
                                      refine j_laldN hX 1 0 rfl (by omega) (by omega) dX11_mix_318 ?_
                                      have jn_19 : ∀ (z : Int64), (z = wv mj j) → J p l e ({ frames := 1, cells := 0, slots := 0, locals := 22 } : Room) s m ([.ref h] : List Value).toArray below meth c g A 7 Q 0 0 [oB h 11 (mO b v), lA g (b 9) 25 G5, lA g (b 10) 25 TT, lA g (b 11) 5 SL, iA g (b 12) 25 tn] [(3, .int (nI j)), (0, .ref h), (1, .int (lfI mj)), (2, .int (nI r))] 337 [.long z, .long (G5 0), .int 0, .ref (b 9)] := by
                                        intro z hz
                                        refine j_lxor hX dX11_mix_337 ?_
                                        refine j_lastN hX 1 0 rfl (by omega) (by omega) [oB h 11 (mO b v), lA g (b 9) 25 (vp_updL G5 0 ((G5 0) ^^^ z)), lA g (b 10) 25 TT, lA g (b 11) 5 SL, iA g (b 12) 25 tn] rfl dX11_mix_338 ?_
                                        refine j_iload_n hX 2 dX11_mix_339 rfl ?_
                                        refine j_iconst hX (1) dX11_mix_340 (by decide) ?_
                                        refine j_ishl hX dX11_mix_341 ?_
                                        refine j_istore_n hX 1 [(1, .int ((lfI mj) <<< (1 &&& 31))), (3, .int (nI j)), (0, .ref h), (2, .int (nI r))] dX11_mix_342 rfl (by decide) rfl ?_
                                        have jn_20 : ∀ (z2 : Int32), (z2 = if (lfI mj) <<< (1 &&& 31) < 256 then 0 else 369) → J p l e ({ frames := 1, cells := 0, slots := 0, locals := 22 } : Room) s m ([.ref h] : List Value).toArray below meth c g A 7 Q 0 0 [oB h 11 (mO b v), lA g (b 9) 25 (vp_updL G5 0 (G5 0 ^^^ z)), lA g (b 10) 25 TT, lA g (b 11) 5 SL, iA g (b 12) 25 tn] [(1, .int ((lfI mj) <<< (1 &&& 31))), (3, .int (nI j)), (0, .ref h), (2, .int (nI r))] 358 [.int z2, .int ((lfI mj) <<< (1 &&& 31))] := by
                                          intro z2 hz2
                                          refine j_ixor hX dX11_mix_358 ?_
                                          refine j_pc 359 rfl ?_
                                          refine j_istore_n hX 1 [(1, .int (((lfI mj) <<< (1 &&& 31)) ^^^ z2)), (3, .int (nI j)), (0, .ref h), (2, .int (nI r))] dX11_mix_359 rfl (by decide) rfl ?_
                                          refine j_iincN hX j (j + 1) [(3, .int (nI (j + 1))), (1, .int (((lfI mj) <<< (1 &&& 31)) ^^^ z2)), (0, .ref h), (2, .int (nI r))] 1 dX11_mix_360 rfl (nI_1 _) (by decide) rfl ?_
                                          refine j_lv [(3, .int (nI (j + 1))), (1, .int (lfI (mj + 1))), (0, .ref h), (2, .int (nI r))] (by rw [hz2]; rfl) ?_
                                          refine j_goto hX 306 dX11_mix_363 (by decide) ?_
                                          refine j_perm [(0, .ref h), (1, .int (lfI (mj + 1))), (2, .int (nI r)), (3, .int (nI (j + 1)))] [2, 1, 3, 0] rfl ?_
                                          exact ih_18 (j + 1) (mj + 1) (vp_updL G5 0 (G5 0 ^^^ z)) (by omega) (by omega) (by omega) (by rw [updL_eq, h0, hz, xw, hmj]) (fun k hk0 hk => by rw [updL_ne (by omega)]; exact hk5 k hk0 hk)
                                        refine j_iload_n hX 0 dX11_mix_343 rfl ?_
                                        refine j_iload_n hX 0 dX11_mix_344 rfl ?_
                                        refine j_sipush hX (256) dX11_mix_345 (by decide) ?_
                                        refine j_icmp_lt hX 357 dX11_mix_348 (by decide) (fun b_348 => ?_) (fun b_348 => ?_)
                                        · skip
                                          refine j_iconst hX (0) dX11_mix_357 (by decide) ?_
                                          exact jn_20 0 (by first | rw [if_pos b_348] | rw [if_neg b_348])
                                        · skip
                                          refine j_pc 351 rfl ?_
                                          refine j_sipush hX (369) dX11_mix_351 (by decide) ?_
                                          refine j_goto hX 358 dX11_mix_354 (by decide) ?_
                                          exact jn_20 369 (by first | rw [if_pos b_348] | rw [if_neg b_348])
                                      refine j_iload_n hX 1 dX11_mix_319 rfl ?_
                                      refine j_iconst hX (1) dX11_mix_320 (by decide) ?_
                                      refine j_iand hX dX11_mix_321 ?_
                                      refine j_iconst hX (1) dX11_mix_322 (by decide) ?_
                                      refine j_icmp_ne hX 336 dX11_mix_323 (by decide) (fun b_323 => ?_) (fun b_323 => ?_)
                                      · skip
                                        refine j_lconst hX 0 dX11_mix_336 rfl ?_
                                        refine j_perm [(3, .int (nI j)), (0, .ref h), (1, .int (lfI mj)), (2, .int (nI r))] [3, 0, 1, 2] rfl ?_
                                        exact jn_19 (0 : Int64) (by unfold wv; first | rw [if_pos b_323] | rw [if_neg b_323])
                                      · skip
                                        refine j_pc 326 rfl ?_
                                        refine j_lconst hX 1 dX11_mix_326 rfl ?_
                                        refine j_iconst hX (1) dX11_mix_327 (by decide) ?_
                                        refine j_iload_n hX 3 dX11_mix_328 rfl ?_
                                        refine j_ishlN hX 1 j (by omega) (pow7 (by omega)).1 dX11_mix_329 ?_
                                        refine j_iconst hX (1) dX11_mix_330 (by decide) ?_
                                        refine j_isubN hX (1 * 2 ^ j) 1 (pow7 (by omega)).2 dX11_mix_331 ?_
                                        refine j_lshl hX dX11_mix_332 ?_
                                        refine j_goto hX 337 dX11_mix_333 (by decide) ?_
                                        refine j_perm [(3, .int (nI j)), (0, .ref h), (1, .int (lfI mj)), (2, .int (nI r))] [3, 0, 1, 2] rfl ?_
                                        exact jn_19 (lshl (1 : Int64) (nI ((1 * 2 ^ j) - 1))) (by unfold wv; first | rw [if_pos b_323] | rw [if_neg b_323])
                                refine j_perm [(0, .ref h), (1, .int (lfI mm)), (2, .int (nI r)), (3, .int (nI 0))] [1, 2, 3, 0] rfl ?_
                                exact lp_16 _ 0 mm G4 (Nat.lt_succ_self _) (by omega) (by omega) (hX4 0 (by decide)) (fun k _ hk => hX4 k hk)
                              · skip
                                refine j_pc 225 rfl ?_
                                refine j_iconst hX (0) dX11_mix_225 (by decide) ?_
                                refine j_st [.int (nI 0)] rfl ?_
                                refine j_istore hX [(4, .int (nI 0)), (0, .ref h), (1, .int (lfI mm)), (2, .int (nI r)), (3, .int (nI x))] dX11_mix_226 (by decide) rfl ?_
                                have lp_21 : ∀ (n_22 : Nat) (y : Nat) (G4 : Nat → Int64), (5 - y < n_22) → (y ≤ 5) → (∀ k, k < 25 → (k % 5 < x ∨ (k % 5 = x ∧ k / 5 < y)) → G4 k = kX (kB (kT AL)) k) → J p l e ({ frames := 1, cells := 0, slots := 0, locals := 22 } : Room) s m ([.ref h] : List Value).toArray below meth c g A 7 Q 0 0 [oB h 11 (mO b v), lA g (b 9) 25 G4, lA g (b 10) 25 TT, lA g (b 11) 5 SL, iA g (b 12) 25 tn] [(0, .ref h), (1, .int (lfI mm)), (2, .int (nI r)), (3, .int (nI x)), (4, .int (nI y))] 228 [] := by
                                  intro n_22
                                  induction n_22 with
                                  | zero => intro y G4 hm; exact absurd hm (Nat.not_lt_zero _)
                                  | succ n_22 ih_23 =>
                                    intro y G4 hm hy hC2
                                    refine j_iload hX 4 dX11_mix_228 rfl ?_
                                    refine j_iconst hX (5) dX11_mix_230 (by decide) ?_
                                    refine j_icmp_geN hX y 5 298 dX11_mix_231 (by decide) (by omega) (by omega) (fun b_231 => ?_) (fun b_231 => ?_)
                                    · skip
                                      refine j_iincN hX x (x + 1) [(3, .int (nI (x + 1))), (0, .ref h), (1, .int (lfI mm)), (2, .int (nI r)), (4, .int (nI y))] 3 dX11_mix_298 rfl (nI_1 _) (by decide) rfl ?_
                                      refine j_goto hX 220 dX11_mix_301 (by decide) ?_
                                      refine j_perm [(0, .ref h), (1, .int (lfI mm)), (2, .int (nI r)), (3, .int (nI (x + 1)))] [1, 2, 3, 0] rfl ?_
                                      exact ih_15 (x + 1) G4 (by omega) (by omega) (fun k hk c1 => hC2 k hk (by omega))
                                    · skip
                                      refine j_aload_n hX 0 dX11_mix_234 rfl ?_
                                      refine j_pc 235 rfl ?_
                                      refine j_get hX in11 11 0 9 (v := .ref (b 9)) rfl rfl (by decide) (List.mem_of_getElem? (i := 2) rfl) rfl rfl dX11_mix_235 ?_
                                      refine j_iload_n hX 3 dX11_mix_238 rfl ?_
                                      refine j_iconst hX (5) dX11_mix_239 (by decide) ?_
                                      refine j_iload hX 4 dX11_mix_240 rfl ?_
                                      refine j_imulN hX 5 y dX11_mix_242 ?_
                                      refine j_iaddN hX x (5 * y) dX11_mix_243 ?_
                                      refine j_aload_n hX 0 dX11_mix_244 rfl ?_
                                      refine j_get hX in11 11 0 10 (v := .ref (b 10)) rfl rfl (by decide) (List.mem_of_getElem? (i := 3) rfl) rfl rfl dX11_mix_245 ?_
                                      refine j_pc 248 rfl ?_
                                      refine j_iload_n hX 3 dX11_mix_248 rfl ?_
                                      refine j_iconst hX (5) dX11_mix_249 (by decide) ?_
                                      refine j_iload hX 4 dX11_mix_250 rfl ?_
                                      refine j_imulN hX 5 y dX11_mix_252 ?_
                                      refine j_iaddN hX x (5 * y) dX11_mix_253 ?_
                                      refine j_laldN hX 2 (x + (5 * y)) rfl (by omega) (by omega) dX11_mix_254 ?_
                                      refine j_topeql _ (kB (kT AL) (x + (5 * y))) (hTB _ (by omega)) ?_
                                      refine j_aload_n hX 0 dX11_mix_255 rfl ?_
                                      refine j_get hX in11 11 0 10 (v := .ref (b 10)) rfl rfl (by decide) (List.mem_of_getElem? (i := 3) rfl) rfl rfl dX11_mix_256 ?_
                                      refine j_pc 259 rfl ?_
                                      refine j_iload_n hX 3 dX11_mix_259 rfl ?_
                                      refine j_iconst hX (1) dX11_mix_260 (by decide) ?_
                                      refine j_iaddN hX x 1 dX11_mix_261 ?_
                                      refine j_iconst hX (5) dX11_mix_262 (by decide) ?_
                                      refine j_iremN hX (x + 1) 5 (by omega) (by omega) (by omega) dX11_mix_263 ?_
                                      refine j_iconst hX (5) dX11_mix_264 (by decide) ?_
                                      refine j_iload hX 4 dX11_mix_265 rfl ?_
                                      refine j_imulN hX 5 y dX11_mix_267 ?_
                                      refine j_pc 268 rfl ?_
                                      refine j_iaddN hX ((x + 1) % 5) (5 * y) dX11_mix_268 ?_
                                      refine j_laldN hX 2 (((x + 1) % 5) + (5 * y)) rfl (by omega) (by omega) dX11_mix_269 ?_
                                      refine j_topeql _ (kB (kT AL) (((x + 1) % 5) + (5 * y))) (hTB _ (by omega)) ?_
                                      refine j_ldc2 hX dX11_mix_270 (List.mem_of_getElem? (i := 5) rfl) ?_
                                      refine j_lxor hX dX11_mix_273 ?_
                                      refine j_aload_n hX 0 dX11_mix_274 rfl ?_
                                      refine j_get hX in11 11 0 10 (v := .ref (b 10)) rfl rfl (by decide) (List.mem_of_getElem? (i := 3) rfl) rfl rfl dX11_mix_275 ?_
                                      refine j_iload_n hX 3 dX11_mix_278 rfl ?_
                                      refine j_iconst hX (2) dX11_mix_279 (by decide) ?_
                                      refine j_pc 280 rfl ?_
                                      refine j_iaddN hX x 2 dX11_mix_280 ?_
                                      refine j_iconst hX (5) dX11_mix_281 (by decide) ?_
                                      refine j_iremN hX (x + 2) 5 (by omega) (by omega) (by omega) dX11_mix_282 ?_
                                      refine j_iconst hX (5) dX11_mix_283 (by decide) ?_
                                      refine j_iload hX 4 dX11_mix_284 rfl ?_
                                      refine j_imulN hX 5 y dX11_mix_286 ?_
                                      refine j_iaddN hX ((x + 2) % 5) (5 * y) dX11_mix_287 ?_
                                      refine j_laldN hX 2 (((x + 2) % 5) + (5 * y)) rfl (by omega) (by omega) dX11_mix_288 ?_
                                      refine j_topeql _ (kB (kT AL) (((x + 2) % 5) + (5 * y))) (hTB _ (by omega)) ?_
                                      refine j_pc 289 rfl ?_
                                      refine j_land hX dX11_mix_289 ?_
                                      refine j_lxor hX dX11_mix_290 ?_
                                      refine j_topeql _ (kX (kB (kT AL)) (x + (5 * y))) (kX_xy _ (by omega)) ?_
                                      refine j_lastN hX 1 (x + (5 * y)) rfl (by omega) (by omega) [oB h 11 (mO b v), lA g (b 9) 25 (vp_updL G4 (x + (5 * y)) (kX (kB (kT AL)) (x + (5 * y)))), lA g (b 10) 25 TT, lA g (b 11) 5 SL, iA g (b 12) 25 tn] rfl dX11_mix_291 ?_
                                      refine j_iincN hX y (y + 1) [(4, .int (nI (y + 1))), (0, .ref h), (1, .int (lfI mm)), (2, .int (nI r)), (3, .int (nI x))] 4 dX11_mix_292 rfl (nI_1 _) (by decide) rfl ?_
                                      refine j_goto hX 228 dX11_mix_295 (by decide) ?_
                                      refine j_perm [(0, .ref h), (1, .int (lfI mm)), (2, .int (nI r)), (3, .int (nI x)), (4, .int (nI (y + 1)))] [1, 2, 3, 4, 0] rfl ?_
                                      exact ih_23 (y + 1) (vp_updL G4 (x + (5 * y)) (kX (kB (kT AL)) (x + (5 * y)))) (by omega) (by omega) (chi_step (by omega) (by omega) hC2)
                                refine j_perm [(0, .ref h), (1, .int (lfI mm)), (2, .int (nI r)), (3, .int (nI x)), (4, .int (nI 0))] [1, 2, 3, 4, 0] rfl ?_
                                exact lp_21 _ 0 G4 (Nat.lt_succ_self _) (by omega) (fun k hk c1 => hC k hk (by omega))
                          refine j_perm [(0, .ref h), (1, .int (lfI mm)), (2, .int (nI r)), (3, .int (nI 0))] [1, 2, 3, 0] rfl ?_
                          exact lp_13 _ 0 G (Nat.lt_succ_self _) (by omega) (fun k _ c1 => absurd c1 (Nat.not_lt_zero _))
                        · skip
                          refine j_iconst hX (0) dX11_mix_152 (by decide) ?_
                          refine j_st [.int (nI 0)] rfl ?_
                          refine j_istore hX [(4, .int (nI 0)), (0, .ref h), (1, .int (lfI mm)), (2, .int (nI r)), (3, .int (nI x))] dX11_mix_153 (by decide) rfl ?_
                          have lp_24 : ∀ (n_25 : Nat) (y : Nat) (TT : Nat → Int64), (5 - y < n_25) → (y ≤ 5) → (∀ k, k < 25 → (k % 5 < x ∨ (k % 5 = x ∧ k / 5 < y)) → TT (kTgt k) = rlc (G k) (s_turns.getD k 0)) → J p l e ({ frames := 1, cells := 0, slots := 0, locals := 22 } : Room) s m ([.ref h] : List Value).toArray below meth c g A 7 Q 0 0 [oB h 11 (mO b v), lA g (b 9) 25 G, lA g (b 10) 25 TT, lA g (b 11) 5 SL, iA g (b 12) 25 tn] [(0, .ref h), (1, .int (lfI mm)), (2, .int (nI r)), (3, .int (nI x)), (4, .int (nI y))] 155 [] := by
                            intro n_25
                            induction n_25 with
                            | zero => intro y TT hm; exact absurd hm (Nat.not_lt_zero _)
                            | succ n_25 ih_26 =>
                              intro y TT hm hy hR2
                              refine j_iload hX 4 dX11_mix_155 rfl ?_
                              refine j_pc 157 rfl ?_
                              refine j_iconst hX (5) dX11_mix_157 (by decide) ?_
                              refine j_icmp_geN hX y 5 212 dX11_mix_158 (by decide) (by omega) (by omega) (fun b_158 => ?_) (fun b_158 => ?_)
                              · skip
                                refine j_iincN hX x (x + 1) [(3, .int (nI (x + 1))), (0, .ref h), (1, .int (lfI mm)), (2, .int (nI r)), (4, .int (nI y))] 3 dX11_mix_212 rfl (nI_1 _) (by decide) rfl ?_
                                refine j_goto hX 147 dX11_mix_215 (by decide) ?_
                                refine j_perm [(0, .ref h), (1, .int (lfI mm)), (2, .int (nI r)), (3, .int (nI (x + 1)))] [1, 2, 3, 0] rfl ?_
                                exact ih_12 (x + 1) TT (by omega) (by omega) (fun k hk c1 => hR2 k hk (by omega))
                              · skip
                                refine j_aload_n hX 0 dX11_mix_161 rfl ?_
                                refine j_get hX in11 11 0 10 (v := .ref (b 10)) rfl rfl (by decide) (List.mem_of_getElem? (i := 3) rfl) rfl rfl dX11_mix_162 ?_
                                refine j_iload hX 4 dX11_mix_165 rfl ?_
                                refine j_iconst hX (5) dX11_mix_167 (by decide) ?_
                                refine j_pc 168 rfl ?_
                                refine j_iconst hX (2) dX11_mix_168 (by decide) ?_
                                refine j_iload_n hX 3 dX11_mix_169 rfl ?_
                                refine j_imulN hX 2 x dX11_mix_170 ?_
                                refine j_iconst hX (3) dX11_mix_171 (by decide) ?_
                                refine j_iload hX 4 dX11_mix_172 rfl ?_
                                refine j_imulN hX 3 y dX11_mix_174 ?_
                                refine j_iaddN hX (2 * x) (3 * y) dX11_mix_175 ?_
                                refine j_iconst hX (5) dX11_mix_176 (by decide) ?_
                                refine j_pc 177 rfl ?_
                                refine j_iremN hX ((2 * x) + (3 * y)) 5 (by omega) (by omega) (by omega) dX11_mix_177 ?_
                                refine j_imulN hX 5 (((2 * x) + (3 * y)) % 5) dX11_mix_178 ?_
                                refine j_iaddN hX y (5 * (((2 * x) + (3 * y)) % 5)) dX11_mix_179 ?_
                                refine j_aload_n hX 0 dX11_mix_180 rfl ?_
                                refine j_get hX in11 11 0 9 (v := .ref (b 9)) rfl rfl (by decide) (List.mem_of_getElem? (i := 2) rfl) rfl rfl dX11_mix_181 ?_
                                refine j_iload_n hX 3 dX11_mix_184 rfl ?_
                                refine j_iconst hX (5) dX11_mix_185 (by decide) ?_
                                refine j_iload hX 4 dX11_mix_186 rfl ?_
                                refine j_pc 188 rfl ?_
                                refine j_imulN hX 5 y dX11_mix_188 ?_
                                refine j_iaddN hX x (5 * y) dX11_mix_189 ?_
                                refine j_laldN hX 1 (x + (5 * y)) rfl (by omega) (by omega) dX11_mix_190 ?_
                                refine j_aload_n hX 0 dX11_mix_191 rfl ?_
                                refine j_get hX in11 11 0 12 (v := .ref (b 12)) rfl rfl (by decide) (List.mem_of_getElem? (i := 4) rfl) rfl rfl dX11_mix_192 ?_
                                refine j_iload_n hX 3 dX11_mix_195 rfl ?_
                                refine j_iconst hX (5) dX11_mix_196 (by decide) ?_
                                refine j_iload hX 4 dX11_mix_197 rfl ?_
                                refine j_pc 199 rfl ?_
                                refine j_imulN hX 5 y dX11_mix_199 ?_
                                refine j_iaddN hX x (5 * y) dX11_mix_200 ?_
                                refine j_ialdN hX 4 (x + (5 * y)) rfl (by omega) (by omega) dX11_mix_201 ?_
                                refine j_callS (b := 0) (C := "") hX 2 (c_left l g (G (x + (5 * y))) (tn (x + (5 * y))) ) gX11_mix_X11_left (by decide +kernel) rfl ⟨rfl, rfl⟩ ⟨Nat.le_of_ble_eq_true rfl, Nat.le_of_ble_eq_true rfl⟩ [] rfl (by decide) (fun _ => rfl) rfl [.int (nI (y + (5 * (((2 * x) + (3 * y)) % 5)))), .ref (b 10)] rfl (Nat.le_of_ble_eq_true rfl) ⟨Nat.le_refl _, Nat.le_refl _⟩ dX11_mix_202 ?_
                                intro _ hu_27
                                refine j_w [oB h 11 (mO b v), lA g (b 9) 25 G, lA g (b 10) 25 TT, lA g (b 11) 5 SL, iA g (b 12) 25 tn] rfl ?_
                                refine j_st [.long (lft (G (x + (5 * y))) (tn (x + (5 * y)))), .int (nI (y + (5 * (((2 * x) + (3 * y)) % 5)))), .ref (b 10)] rfl ?_
                                refine j_topeql _ (rlc (G (x + (5 * y))) (s_turns.getD (x + (5 * y)) 0)) (lft_turn (htn _ (by omega)) (by omega)) ?_
                                refine j_lastN hX 2 (y + (5 * (((2 * x) + (3 * y)) % 5))) rfl (by omega) (by omega) [oB h 11 (mO b v), lA g (b 9) 25 G, lA g (b 10) 25 (vp_updL TT (y + (5 * (((2 * x) + (3 * y)) % 5))) (rlc (G (x + (5 * y))) (s_turns.getD (x + (5 * y)) 0))), lA g (b 11) 5 SL, iA g (b 12) 25 tn] rfl dX11_mix_205 ?_
                                refine j_iincN hX y (y + 1) [(4, .int (nI (y + 1))), (0, .ref h), (1, .int (lfI mm)), (2, .int (nI r)), (3, .int (nI x))] 4 dX11_mix_206 rfl (nI_1 _) (by decide) rfl ?_
                                refine j_goto hX 155 dX11_mix_209 (by decide) ?_
                                refine j_perm [(0, .ref h), (1, .int (lfI mm)), (2, .int (nI r)), (3, .int (nI x)), (4, .int (nI (y + 1)))] [1, 2, 3, 4, 0] rfl ?_
                                exact ih_26 (y + 1) (vp_updL TT (y + (5 * (((2 * x) + (3 * y)) % 5))) (rlc (G (x + (5 * y))) (s_turns.getD (x + (5 * y)) 0))) (by omega) (by omega) (rho_step (by omega) (by omega) hR2)
                          refine j_perm [(0, .ref h), (1, .int (lfI mm)), (2, .int (nI r)), (3, .int (nI x)), (4, .int (nI 0))] [1, 2, 3, 4, 0] rfl ?_
                          exact lp_24 _ 0 TT (Nat.lt_succ_self _) (by omega) (fun k hk c1 => hR k hk (by omega))
                    refine j_perm [(0, .ref h), (1, .int (lfI mm)), (2, .int (nI r)), (3, .int (nI 0))] [1, 2, 3, 0] rfl ?_
                    exact lp_10 _ 0 TL (Nat.lt_succ_self _) (by omega) (fun k _ c1 => absurd c1 (Nat.not_lt_zero _))
                  · skip
                    refine j_aload_n hX 0 dX11_mix_81 rfl ?_
                    refine j_pc 82 rfl ?_
                    refine j_get hX in11 11 0 11 (v := .ref (b 11)) rfl rfl (by decide) (List.mem_of_getElem? (i := 1) rfl) rfl rfl dX11_mix_82 ?_
                    refine j_iload_n hX 3 dX11_mix_85 rfl ?_
                    refine j_iconst hX (4) dX11_mix_86 (by decide) ?_
                    refine j_iaddN hX x 4 dX11_mix_87 ?_
                    refine j_iconst hX (5) dX11_mix_88 (by decide) ?_
                    refine j_iremN hX (x + 4) 5 (by omega) (by omega) (by omega) dX11_mix_89 ?_
                    refine j_laldN hX 3 ((x + 4) % 5) rfl (by omega) (by omega) dX11_mix_90 ?_
                    refine j_topeql _ (kC AL ((x + 4) % 5)) (hS5 _ (by omega)) ?_
                    refine j_aload_n hX 0 dX11_mix_91 rfl ?_
                    refine j_pc 92 rfl ?_
                    refine j_get hX in11 11 0 11 (v := .ref (b 11)) rfl rfl (by decide) (List.mem_of_getElem? (i := 1) rfl) rfl rfl dX11_mix_92 ?_
                    refine j_iload_n hX 3 dX11_mix_95 rfl ?_
                    refine j_iconst hX (1) dX11_mix_96 (by decide) ?_
                    refine j_iaddN hX x 1 dX11_mix_97 ?_
                    refine j_iconst hX (5) dX11_mix_98 (by decide) ?_
                    refine j_iremN hX (x + 1) 5 (by omega) (by omega) (by omega) dX11_mix_99 ?_
                    refine j_laldN hX 3 ((x + 1) % 5) rfl (by omega) (by omega) dX11_mix_100 ?_
                    refine j_topeql _ (kC AL ((x + 1) % 5)) (hS5 _ (by omega)) ?_
                    refine j_iconst hX (1) dX11_mix_101 (by decide) ?_
                    refine j_pc 102 rfl ?_
                    refine j_callS (b := 0) (C := "") hX 2 (c_left l g (kC AL ((x + 1) % 5)) 1 ) gX11_mix_X11_left (by decide +kernel) rfl ⟨rfl, rfl⟩ ⟨Nat.le_of_ble_eq_true rfl, Nat.le_of_ble_eq_true rfl⟩ [] rfl (by decide) (fun _ => rfl) rfl [.long (kC AL ((x + 4) % 5))] rfl (Nat.le_of_ble_eq_true rfl) ⟨Nat.le_refl _, Nat.le_refl _⟩ dX11_mix_102 ?_
                    intro _ hu_28
                    refine j_w [oB h 11 (mO b v), lA g (b 9) 25 G, lA g (b 10) 25 TL, lA g (b 11) 5 SL, iA g (b 12) 25 tn] rfl ?_
                    refine j_st [.long (lft (kC AL ((x + 1) % 5)) 1), .long (kC AL ((x + 4) % 5))] rfl ?_
                    refine j_topeql _ (rlc (kC AL ((x + 1) % 5)) 1) (lft_ne (by decide)) ?_
                    refine j_lxor hX dX11_mix_105 ?_
                    refine j_topeql _ (kD AL x) rfl ?_
                    refine j_lstore hX [(4, .long (kD AL x)), (0, .ref h), (1, .int (lfI mm)), (2, .int (nI r)), (3, .int (nI x))] dX11_mix_106 (by decide) rfl ?_
                    refine j_iconst hX (0) dX11_mix_108 (by decide) ?_
                    refine j_st [.int (nI 0)] rfl ?_
                    refine j_istore hX [(6, .int (nI 0)), (4, .long (kD AL x)), (0, .ref h), (1, .int (lfI mm)), (2, .int (nI r)), (3, .int (nI x))] dX11_mix_109 (by decide) rfl ?_
                    have lp_29 : ∀ (n_30 : Nat) (y : Nat) (G2 : Nat → Int64), (5 - y < n_30) → (y ≤ 5) → (∀ k, k < 25 → G2 k = if k % 5 < x ∨ (k % 5 = x ∧ k / 5 < y) then kT AL k else AL k) → J p l e ({ frames := 1, cells := 0, slots := 0, locals := 22 } : Room) s m ([.ref h] : List Value).toArray below meth c g A 7 Q 0 0 [oB h 11 (mO b v), lA g (b 9) 25 G2, lA g (b 10) 25 TL, lA g (b 11) 5 SL, iA g (b 12) 25 tn] [(0, .ref h), (1, .int (lfI mm)), (2, .int (nI r)), (3, .int (nI x)), (4, .long (kD AL x)), (6, .int (nI y))] 111 [] := by
                      intro n_30
                      induction n_30 with
                      | zero => intro y G2 hm; exact absurd hm (Nat.not_lt_zero _)
                      | succ n_30 ih_31 =>
                        intro y G2 hm hy hG2
                        refine j_iload hX 5 dX11_mix_111 rfl ?_
                        refine j_iconst hX (5) dX11_mix_113 (by decide) ?_
                        refine j_icmp_geN hX y 5 139 dX11_mix_114 (by decide) (by omega) (by omega) (fun b_114 => ?_) (fun b_114 => ?_)
                        · skip
                          refine j_pc 139 rfl ?_
                          refine j_iincN hX x (x + 1) [(3, .int (nI (x + 1))), (0, .ref h), (1, .int (lfI mm)), (2, .int (nI r)), (4, .long (kD AL x)), (6, .int (nI y))] 3 dX11_mix_139 rfl (nI_1 _) (by decide) rfl ?_
                          refine j_goto hX 76 dX11_mix_142 (by decide) ?_
                          refine j_perm [(0, .ref h), (1, .int (lfI mm)), (2, .int (nI r)), (3, .int (nI (x + 1)))] [1, 2, 3, 0] rfl ?_
                          exact ih_9 (x + 1) G2 (by omega) (by omega) (fun k hk => by rw [hG2 k hk]; by_cases c1 : k % 5 < x + 1; (rw [if_pos c1, if_pos (by omega)]); (rw [if_neg c1, if_neg (by omega)]))
                        · skip
                          refine j_aload_n hX 0 dX11_mix_117 rfl ?_
                          refine j_get hX in11 11 0 9 (v := .ref (b 9)) rfl rfl (by decide) (List.mem_of_getElem? (i := 2) rfl) rfl rfl dX11_mix_118 ?_
                          refine j_iload_n hX 3 dX11_mix_121 rfl ?_
                          refine j_iconst hX (5) dX11_mix_122 (by decide) ?_
                          refine j_iload hX 5 dX11_mix_123 rfl ?_
                          refine j_imulN hX 5 y dX11_mix_125 ?_
                          refine j_pc 126 rfl ?_
                          refine j_iaddN hX x (5 * y) dX11_mix_126 ?_
                          refine j_dup2 hX dX11_mix_127 rfl rfl ?_
                          refine j_laldN hX 1 (x + (5 * y)) rfl (by omega) (by omega) dX11_mix_128 ?_
                          refine j_topeql _ (AL (x + (5 * y))) (by rw [hG2 _ (by omega), if_neg (by omega)]) ?_
                          refine j_lload hX 4 dX11_mix_129 rfl ?_
                          refine j_lxor hX dX11_mix_131 ?_
                          refine j_lastN hX 1 (x + (5 * y)) rfl (by omega) (by omega) [oB h 11 (mO b v), lA g (b 9) 25 (vp_updL G2 (x + (5 * y)) ((AL (x + (5 * y))) ^^^ (kD AL x))), lA g (b 10) 25 TL, lA g (b 11) 5 SL, iA g (b 12) 25 tn] rfl dX11_mix_132 ?_
                          refine j_iincN hX y (y + 1) [(6, .int (nI (y + 1))), (0, .ref h), (1, .int (lfI mm)), (2, .int (nI r)), (3, .int (nI x)), (4, .long (kD AL x))] 5 dX11_mix_133 rfl (nI_1 _) (by decide) rfl ?_
                          refine j_goto hX 111 dX11_mix_136 (by decide) ?_
                          refine j_perm [(0, .ref h), (1, .int (lfI mm)), (2, .int (nI r)), (3, .int (nI x)), (4, .long (kD AL x)), (6, .int (nI (y + 1)))] [1, 2, 3, 4, 5, 0] rfl ?_
                          exact ih_31 (y + 1) (vp_updL G2 (x + (5 * y)) ((AL (x + (5 * y))) ^^^ (kD AL x))) (by omega) (by omega) (th_step (by omega) (by omega) hG2)
                    refine j_perm [(0, .ref h), (1, .int (lfI mm)), (2, .int (nI r)), (3, .int (nI x)), (4, .long (kD AL x)), (6, .int (nI 0))] [2, 3, 4, 5, 1, 0] rfl ?_
                    exact lp_29 _ 0 G (Nat.lt_succ_self _) (by omega) (fun k hk => by rw [hG k hk]; by_cases c1 : k % 5 < x; (rw [if_pos c1, if_pos (by omega)]); (rw [if_neg c1, if_neg (by omega)]))
              refine j_perm [(0, .ref h), (1, .int (lfI mm)), (2, .int (nI r)), (3, .int (nI 0))] [1, 2, 3, 0] rfl ?_
              exact lp_7 _ 0 AL (Nat.lt_succ_self _) (by omega) (fun k _ => (if_neg (Nat.not_lt_zero _)).symm)
            · skip
              refine j_pc 17 rfl ?_
              refine j_aload_n hX 0 dX11_mix_17 rfl ?_
              refine j_get hX in11 11 0 11 (v := .ref (b 11)) rfl rfl (by decide) (List.mem_of_getElem? (i := 1) rfl) rfl rfl dX11_mix_18 ?_
              refine j_iload_n hX 3 dX11_mix_21 rfl ?_
              refine j_aload_n hX 0 dX11_mix_22 rfl ?_
              refine j_get hX in11 11 0 9 (v := .ref (b 9)) rfl rfl (by decide) (List.mem_of_getElem? (i := 2) rfl) rfl rfl dX11_mix_23 ?_
              refine j_iload_n hX 3 dX11_mix_26 rfl ?_
              refine j_laldN hX 1 x rfl (by omega) (by omega) dX11_mix_27 ?_
              refine j_aload_n hX 0 dX11_mix_28 rfl ?_
              refine j_pc 29 rfl ?_
              refine j_get hX in11 11 0 9 (v := .ref (b 9)) rfl rfl (by decide) (List.mem_of_getElem? (i := 2) rfl) rfl rfl dX11_mix_29 ?_
              refine j_iload_n hX 3 dX11_mix_32 rfl ?_
              refine j_iconst hX (5) dX11_mix_33 (by decide) ?_
              refine j_iaddN hX x 5 dX11_mix_34 ?_
              refine j_laldN hX 1 (x + 5) rfl (by omega) (by omega) dX11_mix_35 ?_
              refine j_lxor hX dX11_mix_36 ?_
              refine j_aload_n hX 0 dX11_mix_37 rfl ?_
              refine j_get hX in11 11 0 9 (v := .ref (b 9)) rfl rfl (by decide) (List.mem_of_getElem? (i := 2) rfl) rfl rfl dX11_mix_38 ?_
              refine j_pc 41 rfl ?_
              refine j_iload_n hX 3 dX11_mix_41 rfl ?_
              refine j_bipush hX (10) dX11_mix_42 (by decide) ?_
              refine j_iaddN hX x 10 dX11_mix_44 ?_
              refine j_laldN hX 1 (x + 10) rfl (by omega) (by omega) dX11_mix_45 ?_
              refine j_lxor hX dX11_mix_46 ?_
              refine j_aload_n hX 0 dX11_mix_47 rfl ?_
              refine j_get hX in11 11 0 9 (v := .ref (b 9)) rfl rfl (by decide) (List.mem_of_getElem? (i := 2) rfl) rfl rfl dX11_mix_48 ?_
              refine j_iload_n hX 3 dX11_mix_51 rfl ?_
              refine j_pc 52 rfl ?_
              refine j_bipush hX (15) dX11_mix_52 (by decide) ?_
              refine j_iaddN hX x 15 dX11_mix_54 ?_
              refine j_laldN hX 1 (x + 15) rfl (by omega) (by omega) dX11_mix_55 ?_
              refine j_lxor hX dX11_mix_56 ?_
              refine j_aload_n hX 0 dX11_mix_57 rfl ?_
              refine j_get hX in11 11 0 9 (v := .ref (b 9)) rfl rfl (by decide) (List.mem_of_getElem? (i := 2) rfl) rfl rfl dX11_mix_58 ?_
              refine j_iload_n hX 3 dX11_mix_61 rfl ?_
              refine j_bipush hX (20) dX11_mix_62 (by decide) ?_
              refine j_pc 64 rfl ?_
              refine j_iaddN hX x 20 dX11_mix_64 ?_
              refine j_laldN hX 1 (x + 20) rfl (by omega) (by omega) dX11_mix_65 ?_
              refine j_lxor hX dX11_mix_66 ?_
              refine j_topeql _ (kC AL x) rfl ?_
              refine j_lastN hX 3 x rfl (by omega) (by omega) [oB h 11 (mO b v), lA g (b 9) 25 AL, lA g (b 10) 25 TL, lA g (b 11) 5 (vp_updL SL x (kC AL x)), iA g (b 12) 25 tn] rfl dX11_mix_67 ?_
              refine j_iincN hX x (x + 1) [(3, .int (nI (x + 1))), (0, .ref h), (1, .int (lfI mm)), (2, .int (nI r))] 3 dX11_mix_68 rfl (nI_1 _) (by decide) rfl ?_
              refine j_goto hX 12 dX11_mix_71 (by decide) ?_
              refine j_perm [(0, .ref h), (1, .int (lfI mm)), (2, .int (nI r)), (3, .int (nI (x + 1)))] [1, 2, 3, 0] rfl ?_
              exact ih_6 (x + 1) (vp_updL SL x (kC AL x)) (by omega) (by omega) (fun j hj => by unfold vp_updL; split; (rename_i e2; rw [e2]); exact hS j (by omega))
        refine j_perm [(0, .ref h), (1, .int (lfI mm)), (2, .int (nI r)), (3, .int (nI 0))] [1, 2, 3, 0] rfl ?_
        exact lp_4 _ 0 SL (Nat.lt_succ_self _) (by omega) (fun j hj => absurd hj (Nat.not_lt_zero j))
  refine j_perm [(0, .ref h), (1, .int (nI 1)), (2, .int (nI 0))] [2, 1, 0] rfl ?_
  exact lp_1 _ 0 0 A0 T0 S0 (Nat.lt_succ_self _) (by omega) (by omega) (eq25.rf _)

