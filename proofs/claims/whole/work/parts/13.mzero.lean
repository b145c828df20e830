def mO (b : Nat → Nat) (v : Nat → Int32) : List Value := [.ref (b 0), .int (v 1), .ref (b 2), .int (v 3), .ref (b 4), .ref (b 5), .ref (b 6), .ref (b 7), .ref (b 8), .ref (b 9), .ref (b 10), .ref (b 11), .ref (b 12), .ref (b 13), .int (v 14), .int (v 15), .int (v 16), .int (v 17), .int (v 18), .int (v 19), .int (v 20), .int (v 21), .int (v 22), .ref (b 23), .int (v 24), .int (v 25), .int (v 26), .int (v 27), .int (v 28), .ref (b 29), .ref (b 30), .ref (b 31), .ref (b 32), .ref (b 33), .ref (b 34), .ref (b 35), .ref (b 36), .ref (b 37), .ref (b 38), .int (v 39), .ref (b 40), .ref (b 41), .ref (b 42)]
theorem updS {v : Nat → Int32} {k : Nat} {x : Int32} (h : v k = x) : upd v k x = v := by
  funext j
  unfold upd
  split
  · rename_i e; rw [e, h]
  · rfl
theorem i8_c8 (y : Int32) : i8 y = ((⟨⟨y.toBitVec.setWidth 8⟩⟩ : Int8)).toInt32 := by
  unfold i8
  congr 1
  apply Int8.toBitVec_inj.mp
  show BitVec.signExtend 8 y.toBitVec = y.toBitVec.setWidth 8
  rw [BitVec.signExtend_eq_setWidth_of_le _ (by decide)]
theorem sh4 (x : Int32) : ∀ j, j < 4 → i8 (x >>> (nI (24 - 8 * j) &&& 31)) = zB x.toInt64 (3 - j) := by
  intro j hj
  have key : ∀ j, j < 4 → ((nI (24 - 8 * j) &&& 31).toBitVec.smod 32) = BitVec.ofNat 32 (24 - 8 * j) ∧ ((nI (8 * (3 - j))).toInt64.toUInt64 &&& Int64.toUInt64 63).toBitVec % 64 = BitVec.ofNat 64 (24 - 8 * j) := by decide +kernel
  obtain ⟨k1, k2⟩ := key j hj
  unfold zB
  rw [if_pos (by omega), i8_c8, i8_c8]
  congr 2
  have e1 : (x >>> (nI (24 - 8 * j) &&& 31)).toBitVec = x.toBitVec.sshiftRight (24 - 8 * j) := by
    show BitVec.sshiftRight' x.toBitVec ((nI (24 - 8 * j) &&& 31).toBitVec.smod 32) = _
    rw [k1, BitVec.sshiftRight', BitVec.toNat_ofNat, Nat.mod_eq_of_lt (by omega)]
  have e2 : ((lush x.toInt64 (nI (8 * (3 - j)))).toInt32).toBitVec = ((x.toBitVec.signExtend 64) >>> (24 - 8 * j)).signExtend 32 := by
    show BitVec.signExtend 32 ((x.toBitVec.signExtend 64) >>> (((nI (8 * (3 - j))).toInt64.toUInt64 &&& Int64.toUInt64 63).toBitVec % 64)) = _
    rw [k2, BitVec.ushiftRight_eq', BitVec.toNat_ofNat, Nat.mod_eq_of_lt (by omega)]
  rw [e1, e2, BitVec.signExtend_eq_setWidth_of_le _ (by decide)]
  congr 1
  apply BitVec.eq_of_getLsbD_eq
  intro i hi
  simp only [BitVec.getLsbD_setWidth, BitVec.getLsbD_sshiftRight, BitVec.getLsbD_ushiftRight, BitVec.getLsbD_signExtend]
  simp [show i < 8 by omega, show i < 32 by omega, show ¬ 32 ≤ i by omega, show 24 - 8 * j + i < 32 by omega, show 24 - 8 * j + i < 64 by omega]
theorem Zl4_getD (x : Int64) : ∀ j, j < 4 → (Zl x 4).getD j 0 = zB x (3 - j) := by
  intro j hj
  rcases (show j = 0 ∨ j = 1 ∨ j = 2 ∨ j = 3 by omega) with rfl | rfl | rfl | rfl <;> rfl
theorem D0l_getD (f : Nat → Int32) : ∀ n k, k < 4 * n → (D0l f n).getD k 0 = i8 (f (k / 4) >>> (nI (24 - 8 * (k % 4)) &&& 31))
  | 0, k, h => by omega
  | n + 1, k, h => by
    rw [sh4 _ _ (by omega), D0l]
    simp only [List.getD]
    by_cases hk : k < 4 * n
    · rw [List.getElem?_append_left (by rw [D0l_length]; exact hk)]
      have := D0l_getD f n k hk
      rw [sh4 _ _ (by omega)] at this
      exact this
    · rw [List.getElem?_append_right (by rw [D0l_length]; omega), D0l_length]
      have h2 := Zl4_getD (f n).toInt64 (k - 4 * n) (by omega)
      simp only [List.getD] at h2
      rw [h2, show k / 4 = n by omega, show k % 4 = k - 4 * n by omega]
theorem take_put {d D : Nat → Int32} {l : List Int32} {k : Nat} {x : Int32} (hD : D = putL d 0 (l.take k)) (hk : k < l.length) (hx : x = l.getD k 0) : upd D k x = putL d 0 (l.take (k + 1)) := by
  rw [hD, putL_snoc (by rw [List.length_take]; omega), List.take_succ, hx]
  congr 2
  simp only [List.getD, List.getElem?_eq_getElem hk]
  rfl
theorem zer_put {f F : Nat → Int32} {n q : Nat} (hF : F = putL f n (i8 128 :: List.replicate q 0)) : upd F (n + 1 + q) (i8 0) = putL f n (i8 128 :: List.replicate (q + 1) 0) := by
  rw [hF, putL_snoc (by simp; omega), i8_0, List.cons_append, ← List.replicate_succ']
theorem tail0_eq2 {f F G : Nat → Int32} {n q : Nat} (hF : F = putL f n (i8 128 :: List.replicate q 0)) (hq : q = z0 n) (hG : G = putL F (n + 1 + q) (Zl ((8 : Int64) * (nI n).toInt64) 8)) : G = putL f n (tail0 n) := by
  rw [hG, hF, putL_app' (by simp; omega), hq]
  rfl
theorem blk_ofM {f S T : Nat → Int32} {t k : Nat} (hS : st8 S = hs0 f k) (ht : t = 64 * k) (h : st8 T = blk f t (st8 S)) : st8 T = hs0 f (k + 1) := by
  subst ht
  rw [h, hs0, hS]

theorem dX11_lay_0 : decode cX11_lay 0 = .ok (.aload_n 0, 1) := by decide +kernel
theorem dX11_lay_1 : decode cX11_lay 1 = .ok (.getfield 13, 3) := by decide +kernel
theorem dX11_lay_4 : decode cX11_lay 4 = .ok (.aload_n 0, 1) := by decide +kernel
theorem dX11_lay_5 : decode cX11_lay 5 = .ok (.getfield 195, 3) := by decide +kernel
theorem dX11_lay_8 : decode cX11_lay 8 = .ok (.iload_n 1, 1) := by decide +kernel
theorem dX11_lay_9 : decode cX11_lay 9 = .ok (.i2b, 1) := by decide +kernel
theorem dX11_lay_10 : decode cX11_lay 10 = .ok (.bastore, 1) := by decide +kernel
theorem dX11_lay_11 : decode cX11_lay 11 = .ok (.aload_n 0, 1) := by decide +kernel
theorem dX11_lay_12 : decode cX11_lay 12 = .ok (.dup, 1) := by decide +kernel
theorem dX11_lay_13 : decode cX11_lay 13 = .ok (.getfield 195, 3) := by decide +kernel
theorem dX11_lay_16 : decode cX11_lay 16 = .ok (.iconst 1, 1) := by decide +kernel
theorem dX11_lay_17 : decode cX11_lay 17 = .ok (.iadd, 1) := by decide +kernel
theorem dX11_lay_18 : decode cX11_lay 18 = .ok (.putfield 195, 3) := by decide +kernel
theorem dX11_lay_21 : decode cX11_lay 21 = .ok (.return_, 1) := by decide +kernel
set_option maxRecDepth 20000 in
theorem ggX11_layNumber_X11_lay : GoodIn wsX11_layNumber wsX11_lay := goodIn_r _ [5, 6, 7, 8, 9, 10, 11, 12, 13, 14, 15, 16, 17, 18, 19, 20, 21, 22, 23, 24, 25, 26, 27, 28, 29, 30, 31, 32, 33, 34, 35, 36, 37, 38, 39, 40, 41, 42, 43, 44, 45, 46, 47, 48, 49, 50] (by decide +kernel) (by decide +kernel)
set_option maxRecDepth 20000 in
theorem gX11_layNumber_X11_lay : GoodIn wsX11_layNumber (wsV RX11 198 RX11 yX11_lay wsX11_lay) := goodIn_app (goodIn_of _ (by decide +kernel)) ggX11_layNumber_X11_lay
theorem dX11_layNumber_0 : decode cX11_layNumber 0 = .ok (.iload_n 3, 1) := by decide +kernel
theorem dX11_layNumber_1 : decode cX11_layNumber 1 = .ok (.iconst 1, 1) := by decide +kernel
theorem dX11_layNumber_2 : decode cX11_layNumber 2 = .ok (.isub, 1) := by decide +kernel
theorem dX11_layNumber_3 : decode cX11_layNumber 3 = .ok (.istore 4, 2) := by decide +kernel
theorem dX11_layNumber_5 : decode cX11_layNumber 5 = .ok (.iload 4, 2) := by decide +kernel
theorem dX11_layNumber_7 : decode cX11_layNumber 7 = .ok (.ifCond .lt 32, 3) := by decide +kernel
theorem dX11_layNumber_10 : decode cX11_layNumber 10 = .ok (.aload_n 0, 1) := by decide +kernel
theorem dX11_layNumber_11 : decode cX11_layNumber 11 = .ok (.iload 4, 2) := by decide +kernel
theorem dX11_layNumber_13 : decode cX11_layNumber 13 = .ok (.bipush 7, 2) := by decide +kernel
theorem dX11_layNumber_15 : decode cX11_layNumber 15 = .ok (.if_icmp .le 7, 3) := by decide +kernel
theorem dX11_layNumber_18 : decode cX11_layNumber 18 = .ok (.iconst 0, 1) := by decide +kernel
theorem dX11_layNumber_19 : decode cX11_layNumber 19 = .ok (.goto 11, 3) := by decide +kernel
theorem dX11_layNumber_22 : decode cX11_layNumber 22 = .ok (.lload_n 1, 1) := by decide +kernel
theorem dX11_layNumber_23 : decode cX11_layNumber 23 = .ok (.bipush 8, 2) := by decide +kernel
theorem dX11_layNumber_25 : decode cX11_layNumber 25 = .ok (.iload 4, 2) := by decide +kernel
theorem dX11_layNumber_27 : decode cX11_layNumber 27 = .ok (.imul, 1) := by decide +kernel
theorem dX11_layNumber_28 : decode cX11_layNumber 28 = .ok (.lshr, 1) := by decide +kernel
theorem dX11_layNumber_29 : decode cX11_layNumber 29 = .ok (.l2i, 1) := by decide +kernel
theorem dX11_layNumber_30 : decode cX11_layNumber 30 = .ok (.invokevirtual 198, 3) := by decide +kernel
theorem dX11_layNumber_33 : decode cX11_layNumber 33 = .ok (.iinc 4 (-1), 3) := by decide +kernel
theorem dX11_layNumber_36 : decode cX11_layNumber 36 = .ok (.goto (-31), 3) := by decide +kernel
theorem dX11_layNumber_39 : decode cX11_layNumber 39 = .ok (.return_, 1) := by decide +kernel
theorem dX11_right_0 : decode cX11_right 0 = .ok (.iload_n 0, 1) := by decide +kernel
theorem dX11_right_1 : decode cX11_right 1 = .ok (.iload_n 1, 1) := by decide +kernel
theorem dX11_right_2 : decode cX11_right 2 = .ok (.iushr, 1) := by decide +kernel
theorem dX11_right_3 : decode cX11_right 3 = .ok (.iload_n 0, 1) := by decide +kernel
theorem dX11_right_4 : decode cX11_right 4 = .ok (.bipush 32, 2) := by decide +kernel
theorem dX11_right_6 : decode cX11_right 6 = .ok (.iload_n 1, 1) := by decide +kernel
theorem dX11_right_7 : decode cX11_right 7 = .ok (.isub, 1) := by decide +kernel
theorem dX11_right_8 : decode cX11_right 8 = .ok (.ishl, 1) := by decide +kernel
theorem dX11_right_9 : decode cX11_right 9 = .ok (.ior, 1) := by decide +kernel
theorem dX11_right_10 : decode cX11_right 10 = .ok (.ireturn, 1) := by decide +kernel
set_option maxRecDepth 20000 in
theorem ggX11_block_X11_right : GoodIn wsX11_block wsX11_right := goodIn_r _ [8] (by decide +kernel) (by decide +kernel)
set_option maxRecDepth 20000 in
theorem gX11_block_X11_right : GoodIn wsX11_block (va_wsS RX11 202 yX11_right wsX11_right) := goodIn_app (goodIn_of _ (by decide +kernel)) ggX11_block_X11_right
theorem dX11_block_0 : decode cX11_block 0 = .ok (.iconst 0, 1) := by decide +kernel
theorem dX11_block_1 : decode cX11_block 1 = .ok (.istore_n 2, 1) := by decide +kernel
theorem dX11_block_2 : decode cX11_block 2 = .ok (.iload_n 2, 1) := by decide +kernel
theorem dX11_block_3 : decode cX11_block 3 = .ok (.bipush 16, 2) := by decide +kernel
theorem dX11_block_5 : decode cX11_block 5 = .ok (.if_icmp .ge 79, 3) := by decide +kernel
theorem dX11_block_8 : decode cX11_block 8 = .ok (.iload_n 1, 1) := by decide +kernel
theorem dX11_block_9 : decode cX11_block 9 = .ok (.iconst 4, 1) := by decide +kernel
theorem dX11_block_10 : decode cX11_block 10 = .ok (.iload_n 2, 1) := by decide +kernel
theorem dX11_block_11 : decode cX11_block 11 = .ok (.imul, 1) := by decide +kernel
theorem dX11_block_12 : decode cX11_block 12 = .ok (.iadd, 1) := by decide +kernel
theorem dX11_block_13 : decode cX11_block 13 = .ok (.istore_n 3, 1) := by decide +kernel
theorem dX11_block_14 : decode cX11_block 14 = .ok (.aload_n 0, 1) := by decide +kernel
theorem dX11_block_15 : decode cX11_block 15 = .ok (.getfield 19, 3) := by decide +kernel
theorem dX11_block_18 : decode cX11_block 18 = .ok (.iload_n 2, 1) := by decide +kernel
theorem dX11_block_19 : decode cX11_block 19 = .ok (.aload_n 0, 1) := by decide +kernel
theorem dX11_block_20 : decode cX11_block 20 = .ok (.getfield 13, 3) := by decide +kernel
theorem dX11_block_23 : decode cX11_block 23 = .ok (.iload_n 3, 1) := by decide +kernel
theorem dX11_block_24 : decode cX11_block 24 = .ok (.baload, 1) := by decide +kernel
theorem dX11_block_25 : decode cX11_block 25 = .ok (.sipush 255, 3) := by decide +kernel
theorem dX11_block_28 : decode cX11_block 28 = .ok (.iand, 1) := by decide +kernel
theorem dX11_block_29 : decode cX11_block 29 = .ok (.bipush 24, 2) := by decide +kernel
theorem dX11_block_31 : decode cX11_block 31 = .ok (.ishl, 1) := by decide +kernel
theorem dX11_block_32 : decode cX11_block 32 = .ok (.aload_n 0, 1) := by decide +kernel
theorem dX11_block_33 : decode cX11_block 33 = .ok (.getfield 13, 3) := by decide +kernel
theorem dX11_block_36 : decode cX11_block 36 = .ok (.iload_n 3, 1) := by decide +kernel
theorem dX11_block_37 : decode cX11_block 37 = .ok (.iconst 1, 1) := by decide +kernel
theorem dX11_block_38 : decode cX11_block 38 = .ok (.iadd, 1) := by decide +kernel
theorem dX11_block_39 : decode cX11_block 39 = .ok (.baload, 1) := by decide +kernel
theorem dX11_block_40 : decode cX11_block 40 = .ok (.sipush 255, 3) := by decide +kernel
theorem dX11_block_43 : decode cX11_block 43 = .ok (.iand, 1) := by decide +kernel
theorem dX11_block_44 : decode cX11_block 44 = .ok (.bipush 16, 2) := by decide +kernel
theorem dX11_block_46 : decode cX11_block 46 = .ok (.ishl, 1) := by decide +kernel
theorem dX11_block_47 : decode cX11_block 47 = .ok (.ior, 1) := by decide +kernel
theorem dX11_block_48 : decode cX11_block 48 = .ok (.aload_n 0, 1) := by decide +kernel
theorem dX11_block_49 : decode cX11_block 49 = .ok (.getfield 13, 3) := by decide +kernel
theorem dX11_block_52 : decode cX11_block 52 = .ok (.iload_n 3, 1) := by decide +kernel
theorem dX11_block_53 : decode cX11_block 53 = .ok (.iconst 2, 1) := by decide +kernel
theorem dX11_block_54 : decode cX11_block 54 = .ok (.iadd, 1) := by decide +kernel
theorem dX11_block_55 : decode cX11_block 55 = .ok (.baload, 1) := by decide +kernel
theorem dX11_block_56 : decode cX11_block 56 = .ok (.sipush 255, 3) := by decide +kernel
theorem dX11_block_59 : decode cX11_block 59 = .ok (.iand, 1) := by decide +kernel
theorem dX11_block_60 : decode cX11_block 60 = .ok (.bipush 8, 2) := by decide +kernel
theorem dX11_block_62 : decode cX11_block 62 = .ok (.ishl, 1) := by decide +kernel
theorem dX11_block_63 : decode cX11_block 63 = .ok (.ior, 1) := by decide +kernel
theorem dX11_block_64 : decode cX11_block 64 = .ok (.aload_n 0, 1) := by decide +kernel
theorem dX11_block_65 : decode cX11_block 65 = .ok (.getfield 13, 3) := by decide +kernel
theorem dX11_block_68 : decode cX11_block 68 = .ok (.iload_n 3, 1) := by decide +kernel
theorem dX11_block_69 : decode cX11_block 69 = .ok (.iconst 3, 1) := by decide +kernel
theorem dX11_block_70 : decode cX11_block 70 = .ok (.iadd, 1) := by decide +kernel
theorem dX11_block_71 : decode cX11_block 71 = .ok (.baload, 1) := by decide +kernel
theorem dX11_block_72 : decode cX11_block 72 = .ok (.sipush 255, 3) := by decide +kernel
theorem dX11_block_75 : decode cX11_block 75 = .ok (.iand, 1) := by decide +kernel
theorem dX11_block_76 : decode cX11_block 76 = .ok (.ior, 1) := by decide +kernel
theorem dX11_block_77 : decode cX11_block 77 = .ok (.iastore, 1) := by decide +kernel
theorem dX11_block_78 : decode cX11_block 78 = .ok (.iinc 2 1, 3) := by decide +kernel
theorem dX11_block_81 : decode cX11_block 81 = .ok (.goto (-79), 3) := by decide +kernel
theorem dX11_block_84 : decode cX11_block 84 = .ok (.bipush 16, 2) := by decide +kernel
theorem dX11_block_86 : decode cX11_block 86 = .ok (.istore_n 2, 1) := by decide +kernel
theorem dX11_block_87 : decode cX11_block 87 = .ok (.iload_n 2, 1) := by decide +kernel
theorem dX11_block_88 : decode cX11_block 88 = .ok (.bipush 64, 2) := by decide +kernel
theorem dX11_block_90 : decode cX11_block 90 = .ok (.if_icmp .ge 102, 3) := by decide +kernel
theorem dX11_block_93 : decode cX11_block 93 = .ok (.aload_n 0, 1) := by decide +kernel
theorem dX11_block_94 : decode cX11_block 94 = .ok (.getfield 19, 3) := by decide +kernel
theorem dX11_block_97 : decode cX11_block 97 = .ok (.iload_n 2, 1) := by decide +kernel
theorem dX11_block_98 : decode cX11_block 98 = .ok (.bipush 15, 2) := by decide +kernel
theorem dX11_block_100 : decode cX11_block 100 = .ok (.isub, 1) := by decide +kernel
theorem dX11_block_101 : decode cX11_block 101 = .ok (.iaload, 1) := by decide +kernel
theorem dX11_block_102 : decode cX11_block 102 = .ok (.istore_n 3, 1) := by decide +kernel
theorem dX11_block_103 : decode cX11_block 103 = .ok (.aload_n 0, 1) := by decide +kernel
theorem dX11_block_104 : decode cX11_block 104 = .ok (.getfield 19, 3) := by decide +kernel
theorem dX11_block_107 : decode cX11_block 107 = .ok (.iload_n 2, 1) := by decide +kernel
theorem dX11_block_108 : decode cX11_block 108 = .ok (.iconst 2, 1) := by decide +kernel
theorem dX11_block_109 : decode cX11_block 109 = .ok (.isub, 1) := by decide +kernel
theorem dX11_block_110 : decode cX11_block 110 = .ok (.iaload, 1) := by decide +kernel
theorem dX11_block_111 : decode cX11_block 111 = .ok (.istore 4, 2) := by decide +kernel
theorem dX11_block_113 : decode cX11_block 113 = .ok (.iload_n 3, 1) := by decide +kernel
theorem dX11_block_114 : decode cX11_block 114 = .ok (.bipush 7, 2) := by decide +kernel
theorem dX11_block_116 : decode cX11_block 116 = .ok (.invokestatic 202, 3) := by decide +kernel
theorem dX11_block_119 : decode cX11_block 119 = .ok (.iload_n 3, 1) := by decide +kernel
theorem dX11_block_120 : decode cX11_block 120 = .ok (.bipush 18, 2) := by decide +kernel
theorem dX11_block_122 : decode cX11_block 122 = .ok (.invokestatic 202, 3) := by decide +kernel
theorem dX11_block_125 : decode cX11_block 125 = .ok (.ixor, 1) := by decide +kernel
theorem dX11_block_126 : decode cX11_block 126 = .ok (.iload_n 3, 1) := by decide +kernel
theorem dX11_block_127 : decode cX11_block 127 = .ok (.iconst 3, 1) := by decide +kernel
theorem dX11_block_128 : decode cX11_block 128 = .ok (.iushr, 1) := by decide +kernel
theorem dX11_block_129 : decode cX11_block 129 = .ok (.ixor, 1) := by decide +kernel
theorem dX11_block_130 : decode cX11_block 130 = .ok (.istore 5, 2) := by decide +kernel
theorem dX11_block_132 : decode cX11_block 132 = .ok (.iload 4, 2) := by decide +kernel
theorem dX11_block_134 : decode cX11_block 134 = .ok (.bipush 17, 2) := by decide +kernel
theorem dX11_block_136 : decode cX11_block 136 = .ok (.invokestatic 202, 3) := by decide +kernel
theorem dX11_block_139 : decode cX11_block 139 = .ok (.iload 4, 2) := by decide +kernel
theorem dX11_block_141 : decode cX11_block 141 = .ok (.bipush 19, 2) := by decide +kernel
theorem dX11_block_143 : decode cX11_block 143 = .ok (.invokestatic 202, 3) := by decide +kernel
theorem dX11_block_146 : decode cX11_block 146 = .ok (.ixor, 1) := by decide +kernel
theorem dX11_block_147 : decode cX11_block 147 = .ok (.iload 4, 2) := by decide +kernel
theorem dX11_block_149 : decode cX11_block 149 = .ok (.bipush 10, 2) := by decide +kernel
theorem dX11_block_151 : decode cX11_block 151 = .ok (.iushr, 1) := by decide +kernel
theorem dX11_block_152 : decode cX11_block 152 = .ok (.ixor, 1) := by decide +kernel
theorem dX11_block_153 : decode cX11_block 153 = .ok (.istore 6, 2) := by decide +kernel
theorem dX11_block_155 : decode cX11_block 155 = .ok (.aload_n 0, 1) := by decide +kernel
theorem dX11_block_156 : decode cX11_block 156 = .ok (.getfield 19, 3) := by decide +kernel
theorem dX11_block_159 : decode cX11_block 159 = .ok (.iload_n 2, 1) := by decide +kernel
theorem dX11_block_160 : decode cX11_block 160 = .ok (.iload 6, 2) := by decide +kernel
theorem dX11_block_162 : decode cX11_block 162 = .ok (.aload_n 0, 1) := by decide +kernel
theorem dX11_block_163 : decode cX11_block 163 = .ok (.getfield 19, 3) := by decide +kernel
theorem dX11_block_166 : decode cX11_block 166 = .ok (.iload_n 2, 1) := by decide +kernel
theorem dX11_block_167 : decode cX11_block 167 = .ok (.bipush 7, 2) := by decide +kernel
theorem dX11_block_169 : decode cX11_block 169 = .ok (.isub, 1) := by decide +kernel
theorem dX11_block_170 : decode cX11_block 170 = .ok (.iaload, 1) := by decide +kernel
theorem dX11_block_171 : decode cX11_block 171 = .ok (.iadd, 1) := by decide +kernel
theorem dX11_block_172 : decode cX11_block 172 = .ok (.iload 5, 2) := by decide +kernel
theorem dX11_block_174 : decode cX11_block 174 = .ok (.iadd, 1) := by decide +kernel
theorem dX11_block_175 : decode cX11_block 175 = .ok (.aload_n 0, 1) := by decide +kernel
theorem dX11_block_176 : decode cX11_block 176 = .ok (.getfield 19, 3) := by decide +kernel
theorem dX11_block_179 : decode cX11_block 179 = .ok (.iload_n 2, 1) := by decide +kernel
theorem dX11_block_180 : decode cX11_block 180 = .ok (.bipush 16, 2) := by decide +kernel
theorem dX11_block_182 : decode cX11_block 182 = .ok (.isub, 1) := by decide +kernel
theorem dX11_block_183 : decode cX11_block 183 = .ok (.iaload, 1) := by decide +kernel
theorem dX11_block_184 : decode cX11_block 184 = .ok (.iadd, 1) := by decide +kernel
theorem dX11_block_185 : decode cX11_block 185 = .ok (.iastore, 1) := by decide +kernel
theorem dX11_block_186 : decode cX11_block 186 = .ok (.iinc 2 1, 3) := by decide +kernel
theorem dX11_block_189 : decode cX11_block 189 = .ok (.goto (-102), 3) := by decide +kernel
theorem dX11_block_192 : decode cX11_block 192 = .ok (.aload_n 0, 1) := by decide +kernel
theorem dX11_block_193 : decode cX11_block 193 = .ok (.getfield 23, 3) := by decide +kernel
theorem dX11_block_196 : decode cX11_block 196 = .ok (.iconst 0, 1) := by decide +kernel
theorem dX11_block_197 : decode cX11_block 197 = .ok (.iaload, 1) := by decide +kernel
theorem dX11_block_198 : decode cX11_block 198 = .ok (.istore_n 2, 1) := by decide +kernel
theorem dX11_block_199 : decode cX11_block 199 = .ok (.aload_n 0, 1) := by decide +kernel
theorem dX11_block_200 : decode cX11_block 200 = .ok (.getfield 23, 3) := by decide +kernel
theorem dX11_block_203 : decode cX11_block 203 = .ok (.iconst 1, 1) := by decide +kernel
theorem dX11_block_204 : decode cX11_block 204 = .ok (.iaload, 1) := by decide +kernel
theorem dX11_block_205 : decode cX11_block 205 = .ok (.istore_n 3, 1) := by decide +kernel
theorem dX11_block_206 : decode cX11_block 206 = .ok (.aload_n 0, 1) := by decide +kernel
theorem dX11_block_207 : decode cX11_block 207 = .ok (.getfield 23, 3) := by decide +kernel
theorem dX11_block_210 : decode cX11_block 210 = .ok (.iconst 2, 1) := by decide +kernel
theorem dX11_block_211 : decode cX11_block 211 = .ok (.iaload, 1) := by decide +kernel
theorem dX11_block_212 : decode cX11_block 212 = .ok (.istore 4, 2) := by decide +kernel
theorem dX11_block_214 : decode cX11_block 214 = .ok (.aload_n 0, 1) := by decide +kernel
theorem dX11_block_215 : decode cX11_block 215 = .ok (.getfield 23, 3) := by decide +kernel
theorem dX11_block_218 : decode cX11_block 218 = .ok (.iconst 3, 1) := by decide +kernel
theorem dX11_block_219 : decode cX11_block 219 = .ok (.iaload, 1) := by decide +kernel
theorem dX11_block_220 : decode cX11_block 220 = .ok (.istore 5, 2) := by decide +kernel
theorem dX11_block_222 : decode cX11_block 222 = .ok (.aload_n 0, 1) := by decide +kernel
theorem dX11_block_223 : decode cX11_block 223 = .ok (.getfield 23, 3) := by decide +kernel
theorem dX11_block_226 : decode cX11_block 226 = .ok (.iconst 4, 1) := by decide +kernel
theorem dX11_block_227 : decode cX11_block 227 = .ok (.iaload, 1) := by decide +kernel
theorem dX11_block_228 : decode cX11_block 228 = .ok (.istore 6, 2) := by decide +kernel
theorem dX11_block_230 : decode cX11_block 230 = .ok (.aload_n 0, 1) := by decide +kernel
theorem dX11_block_231 : decode cX11_block 231 = .ok (.getfield 23, 3) := by decide +kernel
theorem dX11_block_234 : decode cX11_block 234 = .ok (.iconst 5, 1) := by decide +kernel
theorem dX11_block_235 : decode cX11_block 235 = .ok (.iaload, 1) := by decide +kernel
theorem dX11_block_236 : decode cX11_block 236 = .ok (.istore 7, 2) := by decide +kernel
theorem dX11_block_238 : decode cX11_block 238 = .ok (.aload_n 0, 1) := by decide +kernel
theorem dX11_block_239 : decode cX11_block 239 = .ok (.getfield 23, 3) := by decide +kernel
theorem dX11_block_242 : decode cX11_block 242 = .ok (.bipush 6, 2) := by decide +kernel
theorem dX11_block_244 : decode cX11_block 244 = .ok (.iaload, 1) := by decide +kernel
theorem dX11_block_245 : decode cX11_block 245 = .ok (.istore 8, 2) := by decide +kernel
theorem dX11_block_247 : decode cX11_block 247 = .ok (.aload_n 0, 1) := by decide +kernel
theorem dX11_block_248 : decode cX11_block 248 = .ok (.getfield 23, 3) := by decide +kernel
theorem dX11_block_251 : decode cX11_block 251 = .ok (.bipush 7, 2) := by decide +kernel
theorem dX11_block_253 : decode cX11_block 253 = .ok (.iaload, 1) := by decide +kernel
theorem dX11_block_254 : decode cX11_block 254 = .ok (.istore 9, 2) := by decide +kernel
theorem dX11_block_256 : decode cX11_block 256 = .ok (.iconst 0, 1) := by decide +kernel
theorem dX11_block_257 : decode cX11_block 257 = .ok (.istore 10, 2) := by decide +kernel
theorem dX11_block_259 : decode cX11_block 259 = .ok (.iload 10, 2) := by decide +kernel
theorem dX11_block_261 : decode cX11_block 261 = .ok (.bipush 64, 2) := by decide +kernel
theorem dX11_block_263 : decode cX11_block 263 = .ok (.if_icmp .ge 136, 3) := by decide +kernel
theorem dX11_block_266 : decode cX11_block 266 = .ok (.iload 9, 2) := by decide +kernel
theorem dX11_block_268 : decode cX11_block 268 = .ok (.iload 6, 2) := by decide +kernel
theorem dX11_block_270 : decode cX11_block 270 = .ok (.bipush 6, 2) := by decide +kernel
theorem dX11_block_272 : decode cX11_block 272 = .ok (.invokestatic 202, 3) := by decide +kernel
theorem dX11_block_275 : decode cX11_block 275 = .ok (.iload 6, 2) := by decide +kernel
theorem dX11_block_277 : decode cX11_block 277 = .ok (.bipush 11, 2) := by decide +kernel
theorem dX11_block_279 : decode cX11_block 279 = .ok (.invokestatic 202, 3) := by decide +kernel
theorem dX11_block_282 : decode cX11_block 282 = .ok (.ixor, 1) := by decide +kernel
theorem dX11_block_283 : decode cX11_block 283 = .ok (.iload 6, 2) := by decide +kernel
theorem dX11_block_285 : decode cX11_block 285 = .ok (.bipush 25, 2) := by decide +kernel
theorem dX11_block_287 : decode cX11_block 287 = .ok (.invokestatic 202, 3) := by decide +kernel
theorem dX11_block_290 : decode cX11_block 290 = .ok (.ixor, 1) := by decide +kernel
theorem dX11_block_291 : decode cX11_block 291 = .ok (.iadd, 1) := by decide +kernel
theorem dX11_block_292 : decode cX11_block 292 = .ok (.iload 6, 2) := by decide +kernel
theorem dX11_block_294 : decode cX11_block 294 = .ok (.iload 7, 2) := by decide +kernel
theorem dX11_block_296 : decode cX11_block 296 = .ok (.iand, 1) := by decide +kernel
theorem dX11_block_297 : decode cX11_block 297 = .ok (.iload 6, 2) := by decide +kernel
theorem dX11_block_299 : decode cX11_block 299 = .ok (.iconst (-1), 1) := by decide +kernel
theorem dX11_block_300 : decode cX11_block 300 = .ok (.ixor, 1) := by decide +kernel
theorem dX11_block_301 : decode cX11_block 301 = .ok (.iload 8, 2) := by decide +kernel
theorem dX11_block_303 : decode cX11_block 303 = .ok (.iand, 1) := by decide +kernel
theorem dX11_block_304 : decode cX11_block 304 = .ok (.ixor, 1) := by decide +kernel
theorem dX11_block_305 : decode cX11_block 305 = .ok (.iadd, 1) := by decide +kernel
theorem dX11_block_306 : decode cX11_block 306 = .ok (.aload_n 0, 1) := by decide +kernel
theorem dX11_block_307 : decode cX11_block 307 = .ok (.getfield 101, 3) := by decide +kernel
theorem dX11_block_310 : decode cX11_block 310 = .ok (.iload 10, 2) := by decide +kernel
theorem dX11_block_312 : decode cX11_block 312 = .ok (.iaload, 1) := by decide +kernel
theorem dX11_block_313 : decode cX11_block 313 = .ok (.iadd, 1) := by decide +kernel
theorem dX11_block_314 : decode cX11_block 314 = .ok (.aload_n 0, 1) := by decide +kernel
theorem dX11_block_315 : decode cX11_block 315 = .ok (.getfield 19, 3) := by decide +kernel
theorem dX11_block_318 : decode cX11_block 318 = .ok (.iload 10, 2) := by decide +kernel
theorem dX11_block_320 : decode cX11_block 320 = .ok (.iaload, 1) := by decide +kernel
theorem dX11_block_321 : decode cX11_block 321 = .ok (.iadd, 1) := by decide +kernel
theorem dX11_block_322 : decode cX11_block 322 = .ok (.istore 11, 2) := by decide +kernel
theorem dX11_block_324 : decode cX11_block 324 = .ok (.iload_n 2, 1) := by decide +kernel
theorem dX11_block_325 : decode cX11_block 325 = .ok (.iconst 2, 1) := by decide +kernel
theorem dX11_block_326 : decode cX11_block 326 = .ok (.invokestatic 202, 3) := by decide +kernel
theorem dX11_block_329 : decode cX11_block 329 = .ok (.iload_n 2, 1) := by decide +kernel
theorem dX11_block_330 : decode cX11_block 330 = .ok (.bipush 13, 2) := by decide +kernel
theorem dX11_block_332 : decode cX11_block 332 = .ok (.invokestatic 202, 3) := by decide +kernel
theorem dX11_block_335 : decode cX11_block 335 = .ok (.ixor, 1) := by decide +kernel
theorem dX11_block_336 : decode cX11_block 336 = .ok (.iload_n 2, 1) := by decide +kernel
theorem dX11_block_337 : decode cX11_block 337 = .ok (.bipush 22, 2) := by decide +kernel
theorem dX11_block_339 : decode cX11_block 339 = .ok (.invokestatic 202, 3) := by decide +kernel
theorem dX11_block_342 : decode cX11_block 342 = .ok (.ixor, 1) := by decide +kernel
theorem dX11_block_343 : decode cX11_block 343 = .ok (.iload_n 2, 1) := by decide +kernel
theorem dX11_block_344 : decode cX11_block 344 = .ok (.iload_n 3, 1) := by decide +kernel
theorem dX11_block_345 : decode cX11_block 345 = .ok (.iand, 1) := by decide +kernel
theorem dX11_block_346 : decode cX11_block 346 = .ok (.iload_n 2, 1) := by decide +kernel
theorem dX11_block_347 : decode cX11_block 347 = .ok (.iload 4, 2) := by decide +kernel
theorem dX11_block_349 : decode cX11_block 349 = .ok (.iand, 1) := by decide +kernel
theorem dX11_block_350 : decode cX11_block 350 = .ok (.ixor, 1) := by decide +kernel
theorem dX11_block_351 : decode cX11_block 351 = .ok (.iload_n 3, 1) := by decide +kernel
theorem dX11_block_352 : decode cX11_block 352 = .ok (.iload 4, 2) := by decide +kernel
theorem dX11_block_354 : decode cX11_block 354 = .ok (.iand, 1) := by decide +kernel
theorem dX11_block_355 : decode cX11_block 355 = .ok (.ixor, 1) := by decide +kernel
theorem dX11_block_356 : decode cX11_block 356 = .ok (.iadd, 1) := by decide +kernel
theorem dX11_block_357 : decode cX11_block 357 = .ok (.istore 12, 2) := by decide +kernel
theorem dX11_block_359 : decode cX11_block 359 = .ok (.iload 8, 2) := by decide +kernel
theorem dX11_block_361 : decode cX11_block 361 = .ok (.istore 9, 2) := by decide +kernel
theorem dX11_block_363 : decode cX11_block 363 = .ok (.iload 7, 2) := by decide +kernel
theorem dX11_block_365 : decode cX11_block 365 = .ok (.istore 8, 2) := by decide +kernel
theorem dX11_block_367 : decode cX11_block 367 = .ok (.iload 6, 2) := by decide +kernel
theorem dX11_block_369 : decode cX11_block 369 = .ok (.istore 7, 2) := by decide +kernel
theorem dX11_block_371 : decode cX11_block 371 = .ok (.iload 5, 2) := by decide +kernel
theorem dX11_block_373 : decode cX11_block 373 = .ok (.iload 11, 2) := by decide +kernel
theorem dX11_block_375 : decode cX11_block 375 = .ok (.iadd, 1) := by decide +kernel
theorem dX11_block_376 : decode cX11_block 376 = .ok (.istore 6, 2) := by decide +kernel
theorem dX11_block_378 : decode cX11_block 378 = .ok (.iload 4, 2) := by decide +kernel
theorem dX11_block_380 : decode cX11_block 380 = .ok (.istore 5, 2) := by decide +kernel
theorem dX11_block_382 : decode cX11_block 382 = .ok (.iload_n 3, 1) := by decide +kernel
theorem dX11_block_383 : decode cX11_block 383 = .ok (.istore 4, 2) := by decide +kernel
theorem dX11_block_385 : decode cX11_block 385 = .ok (.iload_n 2, 1) := by decide +kernel
theorem dX11_block_386 : decode cX11_block 386 = .ok (.istore_n 3, 1) := by decide +kernel
theorem dX11_block_387 : decode cX11_block 387 = .ok (.iload 11, 2) := by decide +kernel
theorem dX11_block_389 : decode cX11_block 389 = .ok (.iload 12, 2) := by decide +kernel
theorem dX11_block_391 : decode cX11_block 391 = .ok (.iadd, 1) := by decide +kernel
theorem dX11_block_392 : decode cX11_block 392 = .ok (.istore_n 2, 1) := by decide +kernel
theorem dX11_block_393 : decode cX11_block 393 = .ok (.iinc 10 1, 3) := by decide +kernel
theorem dX11_block_396 : decode cX11_block 396 = .ok (.goto (-137), 3) := by decide +kernel
theorem dX11_block_399 : decode cX11_block 399 = .ok (.aload_n 0, 1) := by decide +kernel
theorem dX11_block_400 : decode cX11_block 400 = .ok (.getfield 23, 3) := by decide +kernel
theorem dX11_block_403 : decode cX11_block 403 = .ok (.iconst 0, 1) := by decide +kernel
theorem dX11_block_404 : decode cX11_block 404 = .ok (.dup2, 1) := by decide +kernel
theorem dX11_block_405 : decode cX11_block 405 = .ok (.iaload, 1) := by decide +kernel
theorem dX11_block_406 : decode cX11_block 406 = .ok (.iload_n 2, 1) := by decide +kernel
theorem dX11_block_407 : decode cX11_block 407 = .ok (.iadd, 1) := by decide +kernel
theorem dX11_block_408 : decode cX11_block 408 = .ok (.iastore, 1) := by decide +kernel
theorem dX11_block_409 : decode cX11_block 409 = .ok (.aload_n 0, 1) := by decide +kernel
theorem dX11_block_410 : decode cX11_block 410 = .ok (.getfield 23, 3) := by decide +kernel
theorem dX11_block_413 : decode cX11_block 413 = .ok (.iconst 1, 1) := by decide +kernel
theorem dX11_block_414 : decode cX11_block 414 = .ok (.dup2, 1) := by decide +kernel
theorem dX11_block_415 : decode cX11_block 415 = .ok (.iaload, 1) := by decide +kernel
theorem dX11_block_416 : decode cX11_block 416 = .ok (.iload_n 3, 1) := by decide +kernel
theorem dX11_block_417 : decode cX11_block 417 = .ok (.iadd, 1) := by decide +kernel
theorem dX11_block_418 : decode cX11_block 418 = .ok (.iastore, 1) := by decide +kernel
theorem dX11_block_419 : decode cX11_block 419 = .ok (.aload_n 0, 1) := by decide +kernel
theorem dX11_block_420 : decode cX11_block 420 = .ok (.getfield 23, 3) := by decide +kernel
theorem dX11_block_423 : decode cX11_block 423 = .ok (.iconst 2, 1) := by decide +kernel
theorem dX11_block_424 : decode cX11_block 424 = .ok (.dup2, 1) := by decide +kernel
theorem dX11_block_425 : decode cX11_block 425 = .ok (.iaload, 1) := by decide +kernel
theorem dX11_block_426 : decode cX11_block 426 = .ok (.iload 4, 2) := by decide +kernel
theorem dX11_block_428 : decode cX11_block 428 = .ok (.iadd, 1) := by decide +kernel
theorem dX11_block_429 : decode cX11_block 429 = .ok (.iastore, 1) := by decide +kernel
theorem dX11_block_430 : decode cX11_block 430 = .ok (.aload_n 0, 1) := by decide +kernel
theorem dX11_block_431 : decode cX11_block 431 = .ok (.getfield 23, 3) := by decide +kernel
theorem dX11_block_434 : decode cX11_block 434 = .ok (.iconst 3, 1) := by decide +kernel
theorem dX11_block_435 : decode cX11_block 435 = .ok (.dup2, 1) := by decide +kernel
theorem dX11_block_436 : decode cX11_block 436 = .ok (.iaload, 1) := by decide +kernel
theorem dX11_block_437 : decode cX11_block 437 = .ok (.iload 5, 2) := by decide +kernel
theorem dX11_block_439 : decode cX11_block 439 = .ok (.iadd, 1) := by decide +kernel
theorem dX11_block_440 : decode cX11_block 440 = .ok (.iastore, 1) := by decide +kernel
theorem dX11_block_441 : decode cX11_block 441 = .ok (.aload_n 0, 1) := by decide +kernel
theorem dX11_block_442 : decode cX11_block 442 = .ok (.getfield 23, 3) := by decide +kernel
theorem dX11_block_445 : decode cX11_block 445 = .ok (.iconst 4, 1) := by decide +kernel
theorem dX11_block_446 : decode cX11_block 446 = .ok (.dup2, 1) := by decide +kernel
theorem dX11_block_447 : decode cX11_block 447 = .ok (.iaload, 1) := by decide +kernel
theorem dX11_block_448 : decode cX11_block 448 = .ok (.iload 6, 2) := by decide +kernel
theorem dX11_block_450 : decode cX11_block 450 = .ok (.iadd, 1) := by decide +kernel
theorem dX11_block_451 : decode cX11_block 451 = .ok (.iastore, 1) := by decide +kernel
theorem dX11_block_452 : decode cX11_block 452 = .ok (.aload_n 0, 1) := by decide +kernel
theorem dX11_block_453 : decode cX11_block 453 = .ok (.getfield 23, 3) := by decide +kernel
theorem dX11_block_456 : decode cX11_block 456 = .ok (.iconst 5, 1) := by decide +kernel
theorem dX11_block_457 : decode cX11_block 457 = .ok (.dup2, 1) := by decide +kernel
theorem dX11_block_458 : decode cX11_block 458 = .ok (.iaload, 1) := by decide +kernel
theorem dX11_block_459 : decode cX11_block 459 = .ok (.iload 7, 2) := by decide +kernel
theorem dX11_block_461 : decode cX11_block 461 = .ok (.iadd, 1) := by decide +kernel
theorem dX11_block_462 : decode cX11_block 462 = .ok (.iastore, 1) := by decide +kernel
theorem dX11_block_463 : decode cX11_block 463 = .ok (.aload_n 0, 1) := by decide +kernel
theorem dX11_block_464 : decode cX11_block 464 = .ok (.getfield 23, 3) := by decide +kernel
theorem dX11_block_467 : decode cX11_block 467 = .ok (.bipush 6, 2) := by decide +kernel
theorem dX11_block_469 : decode cX11_block 469 = .ok (.dup2, 1) := by decide +kernel
theorem dX11_block_470 : decode cX11_block 470 = .ok (.iaload, 1) := by decide +kernel
theorem dX11_block_471 : decode cX11_block 471 = .ok (.iload 8, 2) := by decide +kernel
theorem dX11_block_473 : decode cX11_block 473 = .ok (.iadd, 1) := by decide +kernel
theorem dX11_block_474 : decode cX11_block 474 = .ok (.iastore, 1) := by decide +kernel
theorem dX11_block_475 : decode cX11_block 475 = .ok (.aload_n 0, 1) := by decide +kernel
theorem dX11_block_476 : decode cX11_block 476 = .ok (.getfield 23, 3) := by decide +kernel
theorem dX11_block_479 : decode cX11_block 479 = .ok (.bipush 7, 2) := by decide +kernel
theorem dX11_block_481 : decode cX11_block 481 = .ok (.dup2, 1) := by decide +kernel
theorem dX11_block_482 : decode cX11_block 482 = .ok (.iaload, 1) := by decide +kernel
theorem dX11_block_483 : decode cX11_block 483 = .ok (.iload 9, 2) := by decide +kernel
theorem dX11_block_485 : decode cX11_block 485 = .ok (.iadd, 1) := by decide +kernel
theorem dX11_block_486 : decode cX11_block 486 = .ok (.iastore, 1) := by decide +kernel
theorem dX11_block_487 : decode cX11_block 487 = .ok (.return_, 1) := by decide +kernel
set_option maxRecDepth 20000 in
theorem ggX11_hashWords_X11_lay : GoodIn wsX11_hashWords wsX11_lay := goodIn_r _ [10, 11, 2, 25, 26, 27, 28, 29, 30, 31, 32, 33, 34, 35, 36, 37, 38, 39, 40, 41, 42, 43, 44, 45, 46, 47, 48, 49, 50, 51, 52, 53, 54, 55, 56, 57, 58, 59, 60, 61, 62, 63, 64, 65, 66, 67] (by decide +kernel) (by decide +kernel)
set_option maxRecDepth 20000 in
theorem gX11_hashWords_X11_lay : GoodIn wsX11_hashWords (wsV RX11 198 RX11 yX11_lay wsX11_lay) := goodIn_app (goodIn_of _ (by decide +kernel)) ggX11_hashWords_X11_lay
set_option maxRecDepth 20000 in
theorem ggX11_hashWords_X11_layNumber : GoodIn wsX11_hashWords wsX11_layNumber := goodIn_r _ [15, 6, 7, 8, 9, 10, 11, 2, 25, 26, 27, 28, 29, 30, 31, 32, 33, 34, 35, 36, 37, 38, 39, 40, 41, 42, 43, 44, 45, 46, 47, 48, 49, 50, 51, 52, 53, 54, 55, 56, 57, 58, 59, 60, 61, 62, 63, 64, 65, 66, 67] (by decide +kernel) (by decide +kernel)
set_option maxRecDepth 20000 in
theorem gX11_hashWords_X11_layNumber : GoodIn wsX11_hashWords (wsV RX11 208 RX11 yX11_layNumber wsX11_layNumber) := goodIn_app (goodIn_of _ (by decide +kernel)) ggX11_hashWords_X11_layNumber
set_option maxRecDepth 20000 in
theorem ggX11_hashWords_X11_block : GoodIn wsX11_hashWords wsX11_block := goodIn_r _ [19, 20, 11, 3, 21, 22, 23, 9, 24, 25, 26, 27, 28, 29, 30, 31, 32, 33, 34, 35, 36, 37, 38, 39, 40, 41, 42, 43, 44, 45, 46, 47, 48, 49, 50, 51, 52, 53, 54, 55, 56, 57, 58, 59, 60, 61, 62, 63, 64, 65, 66, 67] (by decide +kernel) (by decide +kernel)
set_option maxRecDepth 20000 in
theorem gX11_hashWords_X11_block : GoodIn wsX11_hashWords (wsV RX11 212 RX11 yX11_block wsX11_block) := goodIn_app (goodIn_of _ (by decide +kernel)) ggX11_hashWords_X11_block
theorem dX11_hashWords_0 : decode cX11_hashWords 0 = .ok (.ldc2_w 206, 3) := by decide +kernel
theorem dX11_hashWords_3 : decode cX11_hashWords 3 = .ok (.aload_n 0, 1) := by decide +kernel
theorem dX11_hashWords_4 : decode cX11_hashWords 4 = .ok (.getfield 195, 3) := by decide +kernel
theorem dX11_hashWords_7 : decode cX11_hashWords 7 = .ok (.i2l, 1) := by decide +kernel
theorem dX11_hashWords_8 : decode cX11_hashWords 8 = .ok (.lmul, 1) := by decide +kernel
theorem dX11_hashWords_9 : decode cX11_hashWords 9 = .ok (.lstore_n 1, 1) := by decide +kernel
theorem dX11_hashWords_10 : decode cX11_hashWords 10 = .ok (.aload_n 0, 1) := by decide +kernel
theorem dX11_hashWords_11 : decode cX11_hashWords 11 = .ok (.sipush 128, 3) := by decide +kernel
theorem dX11_hashWords_14 : decode cX11_hashWords 14 = .ok (.invokevirtual 198, 3) := by decide +kernel
theorem dX11_hashWords_17 : decode cX11_hashWords 17 = .ok (.aload_n 0, 1) := by decide +kernel
theorem dX11_hashWords_18 : decode cX11_hashWords 18 = .ok (.getfield 195, 3) := by decide +kernel
theorem dX11_hashWords_21 : decode cX11_hashWords 21 = .ok (.bipush 64, 2) := by decide +kernel
theorem dX11_hashWords_23 : decode cX11_hashWords 23 = .ok (.irem, 1) := by decide +kernel
theorem dX11_hashWords_24 : decode cX11_hashWords 24 = .ok (.bipush 56, 2) := by decide +kernel
theorem dX11_hashWords_26 : decode cX11_hashWords 26 = .ok (.if_icmp .eq 11, 3) := by decide +kernel
theorem dX11_hashWords_29 : decode cX11_hashWords 29 = .ok (.aload_n 0, 1) := by decide +kernel
theorem dX11_hashWords_30 : decode cX11_hashWords 30 = .ok (.iconst 0, 1) := by decide +kernel
theorem dX11_hashWords_31 : decode cX11_hashWords 31 = .ok (.invokevirtual 198, 3) := by decide +kernel
theorem dX11_hashWords_34 : decode cX11_hashWords 34 = .ok (.goto (-17), 3) := by decide +kernel
theorem dX11_hashWords_37 : decode cX11_hashWords 37 = .ok (.aload_n 0, 1) := by decide +kernel
theorem dX11_hashWords_38 : decode cX11_hashWords 38 = .ok (.lload_n 1, 1) := by decide +kernel
theorem dX11_hashWords_39 : decode cX11_hashWords 39 = .ok (.bipush 8, 2) := by decide +kernel
theorem dX11_hashWords_41 : decode cX11_hashWords 41 = .ok (.invokevirtual 208, 3) := by decide +kernel
theorem dX11_hashWords_44 : decode cX11_hashWords 44 = .ok (.iconst 0, 1) := by decide +kernel
theorem dX11_hashWords_45 : decode cX11_hashWords 45 = .ok (.istore_n 3, 1) := by decide +kernel
theorem dX11_hashWords_46 : decode cX11_hashWords 46 = .ok (.iload_n 3, 1) := by decide +kernel
theorem dX11_hashWords_47 : decode cX11_hashWords 47 = .ok (.bipush 8, 2) := by decide +kernel
theorem dX11_hashWords_49 : decode cX11_hashWords 49 = .ok (.if_icmp .ge 21, 3) := by decide +kernel
theorem dX11_hashWords_52 : decode cX11_hashWords 52 = .ok (.aload_n 0, 1) := by decide +kernel
theorem dX11_hashWords_53 : decode cX11_hashWords 53 = .ok (.getfield 23, 3) := by decide +kernel
theorem dX11_hashWords_56 : decode cX11_hashWords 56 = .ok (.iload_n 3, 1) := by decide +kernel
theorem dX11_hashWords_57 : decode cX11_hashWords 57 = .ok (.aload_n 0, 1) := by decide +kernel
theorem dX11_hashWords_58 : decode cX11_hashWords 58 = .ok (.getfield 34, 3) := by decide +kernel
theorem dX11_hashWords_61 : decode cX11_hashWords 61 = .ok (.iload_n 3, 1) := by decide +kernel
theorem dX11_hashWords_62 : decode cX11_hashWords 62 = .ok (.iaload, 1) := by decide +kernel
theorem dX11_hashWords_63 : decode cX11_hashWords 63 = .ok (.iastore, 1) := by decide +kernel
theorem dX11_hashWords_64 : decode cX11_hashWords 64 = .ok (.iinc 3 1, 3) := by decide +kernel
theorem dX11_hashWords_67 : decode cX11_hashWords 67 = .ok (.goto (-21), 3) := by decide +kernel
theorem dX11_hashWords_70 : decode cX11_hashWords 70 = .ok (.iconst 0, 1) := by decide +kernel
theorem dX11_hashWords_71 : decode cX11_hashWords 71 = .ok (.istore_n 3, 1) := by decide +kernel
theorem dX11_hashWords_72 : decode cX11_hashWords 72 = .ok (.iload_n 3, 1) := by decide +kernel
theorem dX11_hashWords_73 : decode cX11_hashWords 73 = .ok (.aload_n 0, 1) := by decide +kernel
theorem dX11_hashWords_74 : decode cX11_hashWords 74 = .ok (.getfield 195, 3) := by decide +kernel
theorem dX11_hashWords_77 : decode cX11_hashWords 77 = .ok (.if_icmp .ge 14, 3) := by decide +kernel
theorem dX11_hashWords_80 : decode cX11_hashWords 80 = .ok (.aload_n 0, 1) := by decide +kernel
theorem dX11_hashWords_81 : decode cX11_hashWords 81 = .ok (.iload_n 3, 1) := by decide +kernel
theorem dX11_hashWords_82 : decode cX11_hashWords 82 = .ok (.invokevirtual 212, 3) := by decide +kernel
theorem dX11_hashWords_85 : decode cX11_hashWords 85 = .ok (.iinc 3 64, 3) := by decide +kernel
theorem dX11_hashWords_88 : decode cX11_hashWords 88 = .ok (.goto (-16), 3) := by decide +kernel
theorem dX11_hashWords_91 : decode cX11_hashWords 91 = .ok (.iconst 0, 1) := by decide +kernel
theorem dX11_hashWords_92 : decode cX11_hashWords 92 = .ok (.istore_n 3, 1) := by decide +kernel
theorem dX11_hashWords_93 : decode cX11_hashWords 93 = .ok (.iload_n 3, 1) := by decide +kernel
theorem dX11_hashWords_94 : decode cX11_hashWords 94 = .ok (.bipush 32, 2) := by decide +kernel
theorem dX11_hashWords_96 : decode cX11_hashWords 96 = .ok (.if_icmp .ge 34, 3) := by decide +kernel
theorem dX11_hashWords_99 : decode cX11_hashWords 99 = .ok (.aload_n 0, 1) := by decide +kernel
theorem dX11_hashWords_100 : decode cX11_hashWords 100 = .ok (.getfield 16, 3) := by decide +kernel
theorem dX11_hashWords_103 : decode cX11_hashWords 103 = .ok (.iload_n 3, 1) := by decide +kernel
theorem dX11_hashWords_104 : decode cX11_hashWords 104 = .ok (.aload_n 0, 1) := by decide +kernel
theorem dX11_hashWords_105 : decode cX11_hashWords 105 = .ok (.getfield 23, 3) := by decide +kernel
theorem dX11_hashWords_108 : decode cX11_hashWords 108 = .ok (.iload_n 3, 1) := by decide +kernel
theorem dX11_hashWords_109 : decode cX11_hashWords 109 = .ok (.iconst 4, 1) := by decide +kernel
theorem dX11_hashWords_110 : decode cX11_hashWords 110 = .ok (.idiv, 1) := by decide +kernel
theorem dX11_hashWords_111 : decode cX11_hashWords 111 = .ok (.iaload, 1) := by decide +kernel
theorem dX11_hashWords_112 : decode cX11_hashWords 112 = .ok (.bipush 24, 2) := by decide +kernel
theorem dX11_hashWords_114 : decode cX11_hashWords 114 = .ok (.bipush 8, 2) := by decide +kernel
theorem dX11_hashWords_116 : decode cX11_hashWords 116 = .ok (.iload_n 3, 1) := by decide +kernel
theorem dX11_hashWords_117 : decode cX11_hashWords 117 = .ok (.iconst 4, 1) := by decide +kernel
theorem dX11_hashWords_118 : decode cX11_hashWords 118 = .ok (.irem, 1) := by decide +kernel
theorem dX11_hashWords_119 : decode cX11_hashWords 119 = .ok (.imul, 1) := by decide +kernel
theorem dX11_hashWords_120 : decode cX11_hashWords 120 = .ok (.isub, 1) := by decide +kernel
theorem dX11_hashWords_121 : decode cX11_hashWords 121 = .ok (.ishr, 1) := by decide +kernel
theorem dX11_hashWords_122 : decode cX11_hashWords 122 = .ok (.i2b, 1) := by decide +kernel
theorem dX11_hashWords_123 : decode cX11_hashWords 123 = .ok (.bastore, 1) := by decide +kernel
theorem dX11_hashWords_124 : decode cX11_hashWords 124 = .ok (.iinc 3 1, 3) := by decide +kernel
theorem dX11_hashWords_127 : decode cX11_hashWords 127 = .ok (.goto (-34), 3) := by decide +kernel
theorem dX11_hashWords_130 : decode cX11_hashWords 130 = .ok (.return_, 1) := by decide +kernel
set_option maxHeartbeats 1000000 in
set_option maxRecDepth 100000 in
/-- the reference: lay -/
theorem c_mlay (l : Launch) (g : jG) (h : Nat) (b : Nat → Nat) (v : Nat → Int32) (n : Nat) (f : Nat → Int32) (x : Int32) (hv3 : v 3 = nI n) (hn : n < 1400) : jC l g yX11_lay wsX11_lay ({ frames := 0, cells := 0, slots := 0, locals := 0 } : Room) [.ref h, .int x] [oB h 11 (mO b v), bA g (b 2) 1400 f] (fun u : Unit => none) (fun u : Unit => True) (fun u : Unit => [oB h 11 (mO b (upd v 3 (nI (n + 1)))), bA g (b 2) 1400 (upd f n (i8 x))]) := by
  refine jC.of (cc := cX11_lay) (own := RX11) (maxL := 2) (ret := none) (by decide +kernel) rfl rfl (Nat.le_of_ble_eq_true rfl) (fun u hu => rfl) ?_
  intro p e s m below meth c A Q hX hret
  have in11 : ∀ w ∈ wsX110, w ∈ wsX11_lay := (fun w h => List.mem_cons_of_mem _ (List.mem_append_right _ h))
  refine j_aload_n hX 0 dX11_lay_0 rfl ?_
  refine j_get hX in11 11 0 2 (v := .ref (b 2)) rfl rfl (by decide) (List.mem_of_getElem? (i := 1) rfl) rfl rfl dX11_lay_1 ?_
  refine j_aload_n hX 0 dX11_lay_4 rfl ?_
  refine j_gete hX (nI n) in11 11 0 3 rfl rfl (by decide) (List.mem_of_getElem? (i := 2) rfl) rfl rfl hv3 dX11_lay_5 ?_
  refine j_iload_n hX 1 dX11_lay_8 rfl ?_
  refine j_i2b hX dX11_lay_9 ?_
  refine j_bast8 hX 1 n rfl (by omega) (by omega) [oB h 11 (mO b v), bA g (b 2) 1400 (upd f n (i8 x))] rfl dX11_lay_10 ?_
  refine j_pc 11 rfl ?_
  refine j_aload_n hX 0 dX11_lay_11 rfl ?_
  refine j_dup hX dX11_lay_12 rfl ?_
  refine j_gete hX (nI n) in11 11 0 3 rfl rfl (by decide) (List.mem_of_getElem? (i := 2) rfl) rfl rfl hv3 dX11_lay_13 ?_
  refine j_iconst hX (1) dX11_lay_16 (by decide) ?_
  refine j_iaddN hX n 1 dX11_lay_17 ?_
  refine j_put hX (v := .int (nI (n + 1))) (ty := .int) in11 tyX11 tyX11_ok nmX11 11 0 3 rfl rfl (by decide) (List.mem_of_getElem? (i := 2) rfl) rfl rfl rfl rfl rfl (Nat.le_of_ble_eq_true rfl) [oB h 11 (mO b (upd v 3 (nI (n + 1)))), bA g (b 2) 1400 (upd f n (i8 x))] rfl dX11_lay_18 ?_
  exact hret () trivial 21 _ .return_ dX11_lay_21 rfl

set_option maxHeartbeats 1000000 in
set_option maxRecDepth 100000 in
/-- the reference: layNumber -/
theorem c_mlayNumber (l : Launch) (g : jG) (h : Nat) (b : Nat → Nat) (v : Nat → Int32) (n : Nat) (f : Nat → Int32) (x : Int64) (k : Nat) (hv3 : v 3 = nI n) (hn : n + k ≤ 1400) : jC l g yX11_layNumber wsX11_layNumber ({ frames := 1, cells := 0, slots := 0, locals := 21 } : Room) [.ref h, .long x, .int (nI k)] [oB h 11 (mO b v), bA g (b 2) 1400 f] (fun u : (Nat → Int32) => none) (fun u : (Nat → Int32) => u = putL f n (Zl x k)) (fun u : (Nat → Int32) => [oB h 11 (mO b (upd v 3 (nI (n + k)))), bA g (b 2) 1400 u]) := by
  refine jC.of (cc := cX11_layNumber) (own := RX11) (maxL := 5) (ret := none) (by decide +kernel) rfl rfl (Nat.le_of_ble_eq_true rfl) (fun u hu => rfl) ?_
  intro p e s m below meth c A Q hX hret
  refine j_w [oB h 11 (mO b (upd v 3 (nI n))), bA g (b 2) 1400 f] (by rw [updS (hv3 : (v : Nat → Int32) 3 = nI n)]) ?_
  refine j_iload_n hX 2 dX11_layNumber_0 rfl ?_
  refine j_iconst hX (1) dX11_layNumber_1 (by decide) ?_
  refine j_isub hX dX11_layNumber_2 ?_
  refine j_istore hX [(4, .int ((nI k) - 1)), (0, .ref h), (1, .long x), (3, .int (nI k))] dX11_layNumber_3 (by decide) rfl ?_
  have lp_1 : ∀ (n_2 : Nat) (kk : Nat) (nn : Nat) (G : Nat → Int32), (kk < n_2) → (nn + kk = n + k) → (putL G nn (Zl x kk) = putL f n (Zl x k)) → J p l e ({ frames := 1, cells := 0, slots := 0, locals := 21 } : Room) s m ([.ref h, .long x, .int (nI k)] : List Value).toArray below meth c g A 5 Q 0 0 [oB h 11 (mO b (upd v 3 (nI nn))), bA g (b 2) 1400 G] [(0, .ref h), (1, .long x), (3, .int (nI k)), (4, .int (nI kk - 1))] 5 [] := by
    intro n_2
    induction n_2 with
    | zero => intro kk nn G hm; exact absurd hm (Nat.not_lt_zero _)
    | succ n_2 ih_3 =>
      intro kk nn G hm h1 h2
      refine j_iload hX 3 dX11_layNumber_5 rfl ?_
      refine j_if_lt hX 39 dX11_layNumber_7 (by decide) (fun b_7 => ?_) (fun b_7 => ?_)
      · skip
        have h3 : kk = 0 := (nI_m1_lt (by omega)).mp b_7
        subst h3
        rw [Zl, putL_nil] at h2
        have h4 : nn = n + k := by omega
        subst h4
        exact hret G h2 39 _ .return_ dX11_layNumber_39 rfl
      · skip
        obtain ⟨k2, rfl⟩ : ∃ k2, kk = k2 + 1 := ⟨kk - 1, by have := mt (nI_m1_lt (by omega)).mpr b_7; omega⟩
        refine j_lv [(0, .ref h), (1, .long x), (3, .int (nI k)), (4, .int (nI k2))] (by rw [nI_pred]) ?_
        refine j_pc 10 rfl ?_
        refine j_aload_n hX 0 dX11_layNumber_10 rfl ?_
        have jn_4 : ∀ (z : Int32), (i8 z = zB x k2) → J p l e ({ frames := 1, cells := 0, slots := 0, locals := 21 } : Room) s m ([.ref h, .long x, .int (nI k)] : List Value).toArray below meth c g A 5 Q 0 0 [oB h 11 (mO b (upd v 3 (nI nn))), bA g (b 2) 1400 G] [(4, .int (nI k2)), (0, .ref h), (1, .long x), (3, .int (nI k))] 30 [.int z, .ref h] := by
          intro z hz
          refine j_callV hX 1 (c_mlay l g h b (upd v 3 (nI nn)) nn G z rfl (by omega)) gX11_layNumber_X11_lay (by decide +kernel) rfl ⟨rfl, rfl⟩ ⟨Nat.le_of_ble_eq_true rfl, Nat.le_of_ble_eq_true rfl⟩ 11 0 rfl rfl [0, 1] rfl (by decide) (fun _ => rfl) rfl [] rfl (Nat.le_of_ble_eq_true rfl) ⟨Nat.le_refl _, Nat.le_refl _⟩ dX11_layNumber_30 ?_
          intro _ hu_5
          refine j_w [oB h 11 (mO b (upd v 3 (nI (nn + 1)))), bA g (b 2) 1400 (upd G nn (i8 z))] rfl ?_
          refine j_st [] rfl ?_
          refine j_iinc hX (nI k2 + (-1)) [(4, .int (nI k2 + (-1))), (0, .ref h), (1, .long x), (3, .int (nI k))] 0 dX11_layNumber_33 rfl rfl (by decide) rfl ?_
          refine j_lv [(4, .int (nI k2 - 1)), (0, .ref h), (1, .long x), (3, .int (nI k))] (by rw [Int32.sub_eq_add_neg]) ?_
          refine j_goto hX 5 dX11_layNumber_36 (by decide) ?_
          refine j_perm [(0, .ref h), (1, .long x), (3, .int (nI k)), (4, .int (nI k2 - 1))] [1, 2, 3, 0] rfl ?_
          exact ih_3 k2 (nn + 1) (upd G nn (i8 z)) (by omega) (by omega) (by rw [hz, putL_cons]; exact h2)
        refine j_iload hX 3 dX11_layNumber_11 rfl ?_
        refine j_bipush hX (7) dX11_layNumber_13 (by decide) ?_
        refine j_icmp_leN hX k2 7 22 dX11_layNumber_15 (by decide) (by omega) (by omega) (fun b_15 => ?_) (fun b_15 => ?_)
        · skip
          refine j_lload_n hX 1 dX11_layNumber_22 rfl ?_
          refine j_pc 23 rfl ?_
          refine j_bipush hX (8) dX11_layNumber_23 (by decide) ?_
          refine j_iload hX 3 dX11_layNumber_25 rfl ?_
          refine j_imulN hX 8 k2 dX11_layNumber_27 ?_
          refine j_lshr hX dX11_layNumber_28 ?_
          refine j_l2i hX dX11_layNumber_29 ?_
          refine j_perm [(4, .int (nI k2)), (0, .ref h), (1, .long x), (3, .int (nI k))] [3, 0, 1, 2] rfl ?_
          exact jn_4 ((lshr x (nI (8 * k2))).toInt32) (by first | (unfold zB; rw [if_neg (by omega)]; rfl) | exact zB_shr _ _ (by omega))
        · skip
          refine j_iconst hX (0) dX11_layNumber_18 (by decide) ?_
          refine j_goto hX 30 dX11_layNumber_19 (by decide) ?_
          refine j_perm [(4, .int (nI k2)), (0, .ref h), (1, .long x), (3, .int (nI k))] [3, 0, 1, 2] rfl ?_
          exact jn_4 0 (by first | (unfold zB; rw [if_neg (by omega)]; rfl) | exact zB_shr _ _ (by omega))
  refine j_perm [(0, .ref h), (1, .long x), (3, .int (nI k)), (4, .int ((nI k) - 1))] [1, 2, 3, 0] rfl ?_
  exact lp_1 _ k n f (Nat.lt_succ_self _) (by omega) rfl

set_option maxHeartbeats 1000000 in
set_option maxRecDepth 100000 in
/-- the reference: right -/
theorem c_right (l : Launch) (g : jG) (x : Int32) (k : Int32)  : jC l g yX11_right wsX11_right ({ frames := 0, cells := 0, slots := 0, locals := 0 } : Room) [.int x, .int k] [] (fun u : Unit => some (.int (ror x k))) (fun u : Unit => True) (fun u : Unit => []) := by
  refine jC.of (cc := cX11_right) (own := RX11) (maxL := 2) (ret := (some .int)) (by decide +kernel) rfl rfl (Nat.le_of_ble_eq_true rfl) (fun u hu => ⟨_, rfl, rfl⟩) ?_
  intro p e s m below meth c A Q hX hret
  refine j_iload_n hX 0 dX11_right_0 rfl ?_
  refine j_iload_n hX 1 dX11_right_1 rfl ?_
  refine j_iushr hX dX11_right_2 ?_
  refine j_iload_n hX 0 dX11_right_3 rfl ?_
  refine j_bipush hX (32) dX11_right_4 (by decide) ?_
  refine j_iload_n hX 1 dX11_right_6 rfl ?_
  refine j_isub hX dX11_right_7 ?_
  refine j_pc 8 rfl ?_
  refine j_ishl hX dX11_right_8 ?_
  refine j_ior hX dX11_right_9 ?_
  refine j_topeq _ (ror x k) rfl ?_
  exact hret () trivial 10 _ .ireturn dX11_right_10 rfl

set_option maxHeartbeats 1000000 in
set_option maxRecDepth 100000 in
/-- the reference: block -/
theorem c_block (l : Launch) (g : jG) (h : Nat) (b : Nat → Nat) (v : Nat → Int32) (f : Nat → Int32) (w : Nat → Int32) (F : Nat → Int32) (rt : Nat → Int32) (t : Nat) (ht : t + 64 ≤ 1400) (hrt : ∀ j, j < 64 → rt j = s_cube.getD j 0) : jC l g yX11_block wsX11_block ({ frames := 1, cells := 0, slots := 0, locals := 21 } : Room) [.ref h, .int (nI t)] [oB h 11 (mO b v), bA g (b 2) 1400 f, iA g (b 5) 64 w, iA g (b 6) 8 F, iA g (b 8) 64 rt] (fun u : (Nat → Int32) × (Nat → Int32) => none) (fun u : (Nat → Int32) × (Nat → Int32) => st8 u.2 = blk f t (st8 F)) (fun u : (Nat → Int32) × (Nat → Int32) => [oB h 11 (mO b v), bA g (b 2) 1400 f, iA g (b 5) 64 u.1, iA g (b 6) 8 u.2, iA g (b 8) 64 rt]) := by
  refine jC.of (cc := cX11_block) (own := RX11) (maxL := 13) (ret := none) (by decide +kernel) rfl rfl (Nat.le_of_ble_eq_true rfl) (fun u hu => rfl) ?_
  intro p e s m below meth c A Q hX hret
  have in11 : ∀ w ∈ wsX110, w ∈ wsX11_block := (fun w h => List.mem_cons_of_mem _ (List.mem_append_right _ h))
  refine j_iconst hX (0) dX11_block_0 (by decide) ?_
  refine j_st [.int (nI 0)] rfl ?_
  refine j_istore_n hX 2 [(2, .int (nI 0)), (0, .ref h), (1, .int (nI t))] dX11_block_1 rfl (by decide) rfl ?_
  have lp_1 : ∀ (n_2 : Nat) (i : Nat) (G : Nat → Int32), (16 - i < n_2) → (i ≤ 16) → (G = putL w 0 (Wl f t i)) → J p l e ({ frames := 1, cells := 0, slots := 0, locals := 21 } : Room) s m ([.ref h, .int (nI t)] : List Value).toArray below meth c g A 13 Q 0 0 [oB h 11 (mO b v), bA g (b 2) 1400 f, iA g (b 5) 64 G, iA g (b 6) 8 F, iA g (b 8) 64 rt] [(0, .ref h), (1, .int (nI t)), (2, .int (nI i))] 2 [] := by
    intro n_2
    induction n_2 with
    | zero => intro i G hm; exact absurd hm (Nat.not_lt_zero _)
    | succ n_2 ih_3 =>
      intro i G hm hi hG
      refine j_iload_n hX 2 dX11_block_2 rfl ?_
      refine j_bipush hX (16) dX11_block_3 (by decide) ?_
      refine j_icmp_geN hX i 16 84 dX11_block_5 (by decide) (by omega) (by omega) (fun b_5 => ?_) (fun b_5 => ?_)
      · skip
        refine j_bipush hX (16) dX11_block_84 (by decide) ?_
        refine j_st [.int (nI 16)] rfl ?_
        refine j_istore_n hX 2 [(2, .int (nI 16)), (0, .ref h), (1, .int (nI t))] dX11_block_86 rfl (by decide) rfl ?_
        have lp_4 : ∀ (n_5 : Nat) (i : Nat) (G : Nat → Int32), (64 - i < n_5) → (i ≤ 64) → (16 ≤ i) → (G = putL w 0 (Wl f t i)) → J p l e ({ frames := 1, cells := 0, slots := 0, locals := 21 } : Room) s m ([.ref h, .int (nI t)] : List Value).toArray below meth c g A 13 Q 0 0 [oB h 11 (mO b v), bA g (b 2) 1400 f, iA g (b 5) 64 G, iA g (b 6) 8 F, iA g (b 8) 64 rt] [(0, .ref h), (1, .int (nI t)), (2, .int (nI i))] 87 [] := by
          intro n_5
          induction n_5 with
          | zero => intro i G hm; exact absurd hm (Nat.not_lt_zero _)
          | succ n_5 ih_6 =>
            intro i G hm hi hi2 hG
            refine j_pc 87 rfl ?_
            refine j_iload_n hX 2 dX11_block_87 rfl ?_
            refine j_bipush hX (64) dX11_block_88 (by decide) ?_
            refine j_icmp_geN hX i 64 192 dX11_block_90 (by decide) (by omega) (by omega) (fun b_90 => ?_) (fun b_90 => ?_)
            · skip
              have hG64 : G = putL w 0 (Wl f t 64) := by rw [hG, show i = 64 by omega]
              refine j_aload_n hX 0 dX11_block_192 rfl ?_
              refine j_get hX in11 11 0 6 (v := .ref (b 6)) rfl rfl (by decide) (List.mem_of_getElem? (i := 3) rfl) rfl rfl dX11_block_193 ?_
              refine j_iconst hX (0) dX11_block_196 (by decide) ?_
              refine j_ialdN hX 3 0 rfl (by omega) (by omega) dX11_block_197 ?_
              refine j_istore_n hX 2 [(2, .int (F 0)), (0, .ref h), (1, .int (nI t))] dX11_block_198 rfl (by decide) rfl ?_
              refine j_pc 199 rfl ?_
              refine j_aload_n hX 1 dX11_block_199 rfl ?_
              refine j_get hX in11 11 0 6 (v := .ref (b 6)) rfl rfl (by decide) (List.mem_of_getElem? (i := 3) rfl) rfl rfl dX11_block_200 ?_
              refine j_iconst hX (1) dX11_block_203 (by decide) ?_
              refine j_ialdN hX 3 1 rfl (by omega) (by omega) dX11_block_204 ?_
              refine j_istore_n hX 3 [(3, .int (F 1)), (2, .int (F 0)), (0, .ref h), (1, .int (nI t))] dX11_block_205 rfl (by decide) rfl ?_
              refine j_aload_n hX 2 dX11_block_206 rfl ?_
              refine j_get hX in11 11 0 6 (v := .ref (b 6)) rfl rfl (by decide) (List.mem_of_getElem? (i := 3) rfl) rfl rfl dX11_block_207 ?_
              refine j_iconst hX (2) dX11_block_210 (by decide) ?_
              refine j_pc 211 rfl ?_
              refine j_ialdN hX 3 2 rfl (by omega) (by omega) dX11_block_211 ?_
              refine j_istore hX [(4, .int (F 2)), (3, .int (F 1)), (2, .int (F 0)), (0, .ref h), (1, .int (nI t))] dX11_block_212 (by decide) rfl ?_
              refine j_aload_n hX 3 dX11_block_214 rfl ?_
              refine j_get hX in11 11 0 6 (v := .ref (b 6)) rfl rfl (by decide) (List.mem_of_getElem? (i := 3) rfl) rfl rfl dX11_block_215 ?_
              refine j_iconst hX (3) dX11_block_218 (by decide) ?_
              refine j_ialdN hX 3 3 rfl (by omega) (by omega) dX11_block_219 ?_
              refine j_istore hX [(5, .int (F 3)), (4, .int (F 2)), (3, .int (F 1)), (2, .int (F 0)), (0, .ref h), (1, .int (nI t))] dX11_block_220 (by decide) rfl ?_
              refine j_aload_n hX 4 dX11_block_222 rfl ?_
              refine j_pc 223 rfl ?_
              refine j_get hX in11 11 0 6 (v := .ref (b 6)) rfl rfl (by decide) (List.mem_of_getElem? (i := 3) rfl) rfl rfl dX11_block_223 ?_
              refine j_iconst hX (4) dX11_block_226 (by decide) ?_
              refine j_ialdN hX 3 4 rfl (by omega) (by omega) dX11_block_227 ?_
              refine j_istore hX [(6, .int (F 4)), (5, .int (F 3)), (4, .int (F 2)), (3, .int (F 1)), (2, .int (F 0)), (0, .ref h), (1, .int (nI t))] dX11_block_228 (by decide) rfl ?_
              refine j_aload_n hX 5 dX11_block_230 rfl ?_
              refine j_get hX in11 11 0 6 (v := .ref (b 6)) rfl rfl (by decide) (List.mem_of_getElem? (i := 3) rfl) rfl rfl dX11_block_231 ?_
              refine j_iconst hX (5) dX11_block_234 (by decide) ?_
              refine j_ialdN hX 3 5 rfl (by omega) (by omega) dX11_block_235 ?_
              refine j_pc 236 rfl ?_
              refine j_istore hX [(7, .int (F 5)), (6, .int (F 4)), (5, .int (F 3)), (4, .int (F 2)), (3, .int (F 1)), (2, .int (F 0)), (0, .ref h), (1, .int (nI t))] dX11_block_236 (by decide) rfl ?_
              refine j_aload_n hX 6 dX11_block_238 rfl ?_
              refine j_get hX in11 11 0 6 (v := .ref (b 6)) rfl rfl (by decide) (List.mem_of_getElem? (i := 3) rfl) rfl rfl dX11_block_239 ?_
              refine j_bipush hX (6) dX11_block_242 (by decide) ?_
              refine j_ialdN hX 3 6 rfl (by omega) (by omega) dX11_block_244 ?_
              refine j_istore hX [(8, .int (F 6)), (7, .int (F 5)), (6, .int (F 4)), (5, .int (F 3)), (4, .int (F 2)), (3, .int (F 1)), (2, .int (F 0)), (0, .ref h), (1, .int (nI t))] dX11_block_245 (by decide) rfl ?_
              refine j_aload_n hX 7 dX11_block_247 rfl ?_
              refine j_get hX in11 11 0 6 (v := .ref (b 6)) rfl rfl (by decide) (List.mem_of_getElem? (i := 3) rfl) rfl rfl dX11_block_248 ?_
              refine j_pc 251 rfl ?_
              refine j_bipush hX (7) dX11_block_251 (by decide) ?_
              refine j_ialdN hX 3 7 rfl (by omega) (by omega) dX11_block_253 ?_
              refine j_istore hX [(9, .int (F 7)), (8, .int (F 6)), (7, .int (F 5)), (6, .int (F 4)), (5, .int (F 3)), (4, .int (F 2)), (3, .int (F 1)), (2, .int (F 0)), (0, .ref h), (1, .int (nI t))] dX11_block_254 (by decide) rfl ?_
              refine j_iconst hX (0) dX11_block_256 (by decide) ?_
              refine j_st [.int (nI 0)] rfl ?_
              refine j_istore hX [(10, .int (nI 0)), (9, .int (F 7)), (8, .int (F 6)), (7, .int (F 5)), (6, .int (F 4)), (5, .int (F 3)), (4, .int (F 2)), (3, .int (F 1)), (2, .int (F 0)), (0, .ref h), (1, .int (nI t))] dX11_block_257 (by decide) rfl ?_
              have lp_7 : ∀ (n_8 : Nat) (va : Int32) (vb : Int32) (vc : Int32) (vd : Int32) (ve : Int32) (vf : Int32) (vg : Int32) (vh : Int32) (i : Nat), (64 - i < n_8) → (i ≤ 64) → ((va, vb, vc, vd, ve, vf, vg, vh) = rds G (st8 F) i) → J p l e ({ frames := 1, cells := 0, slots := 0, locals := 21 } : Room) s m ([.ref h, .int (nI t)] : List Value).toArray below meth c g A 13 Q 0 0 [oB h 11 (mO b v), bA g (b 2) 1400 f, iA g (b 5) 64 G, iA g (b 6) 8 F, iA g (b 8) 64 rt] [(0, .ref h), (1, .int (nI t)), (2, .int va), (3, .int vb), (4, .int vc), (5, .int vd), (6, .int ve), (7, .int vf), (8, .int vg), (9, .int vh), (10, .int (nI i))] 259 [] := by
                intro n_8
                induction n_8 with
                | zero => intro va vb vc vd ve vf vg vh i hm; exact absurd hm (Nat.not_lt_zero _)
                | succ n_8 ih_9 =>
                  intro va vb vc vd ve vf vg vh i hm hi hx
                  refine j_iload hX 10 dX11_block_259 rfl ?_
                  refine j_bipush hX (64) dX11_block_261 (by decide) ?_
                  refine j_icmp_geN hX i 64 399 dX11_block_263 (by decide) (by omega) (by omega) (fun b_263 => ?_) (fun b_263 => ?_)
                  · skip
                    refine j_pc 399 rfl ?_
                    refine j_aload_n hX 0 dX11_block_399 rfl ?_
                    refine j_get hX in11 11 0 6 (v := .ref (b 6)) rfl rfl (by decide) (List.mem_of_getElem? (i := 3) rfl) rfl rfl dX11_block_400 ?_
                    refine j_iconst hX (0) dX11_block_403 (by decide) ?_
                    refine j_dup2 hX dX11_block_404 rfl rfl ?_
                    refine j_ialdN hX 3 0 rfl (by omega) (by omega) dX11_block_405 ?_
                    refine j_iload_n hX 2 dX11_block_406 rfl ?_
                    refine j_iadd hX dX11_block_407 ?_
                    refine j_iastN hX 3 0 rfl (by omega) (by omega) [oB h 11 (mO b v), bA g (b 2) 1400 f, iA g (b 5) 64 G, iA g (b 6) 8 (upd F 0 ((F 0) + va)), iA g (b 8) 64 rt] rfl dX11_block_408 ?_
                    obtain ⟨T0, eT0⟩ : ∃ z, z = upd F 0 ((F 0) + va) := ⟨_, rfl⟩
                    refine j_w [oB h 11 (mO b v), bA g (b 2) 1400 f, iA g (b 5) 64 G, iA g (b 6) 8 T0, iA g (b 8) 64 rt] (by rw [eT0]) ?_
                    refine j_pc 409 rfl ?_
                    refine j_aload_n hX 0 dX11_block_409 rfl ?_
                    refine j_get hX in11 11 0 6 (v := .ref (b 6)) rfl rfl (by decide) (List.mem_of_getElem? (i := 3) rfl) rfl rfl dX11_block_410 ?_
                    refine j_iconst hX (1) dX11_block_413 (by decide) ?_
                    refine j_dup2 hX dX11_block_414 rfl rfl ?_
                    refine j_ialdN hX 3 1 rfl (by omega) (by omega) dX11_block_415 ?_
                    refine j_iload_n hX 3 dX11_block_416 rfl ?_
                    refine j_iadd hX dX11_block_417 ?_
                    refine j_iastN hX 3 1 rfl (by omega) (by omega) [oB h 11 (mO b v), bA g (b 2) 1400 f, iA g (b 5) 64 G, iA g (b 6) 8 (upd T0 1 ((T0 1) + vb)), iA g (b 8) 64 rt] rfl dX11_block_418 ?_
                    obtain ⟨T1, eT1⟩ : ∃ z, z = upd T0 1 ((T0 1) + vb) := ⟨_, rfl⟩
                    refine j_w [oB h 11 (mO b v), bA g (b 2) 1400 f, iA g (b 5) 64 G, iA g (b 6) 8 T1, iA g (b 8) 64 rt] (by rw [eT1]) ?_
                    refine j_pc 419 rfl ?_
                    refine j_aload_n hX 0 dX11_block_419 rfl ?_
                    refine j_get hX in11 11 0 6 (v := .ref (b 6)) rfl rfl (by decide) (List.mem_of_getElem? (i := 3) rfl) rfl rfl dX11_block_420 ?_
                    refine j_iconst hX (2) dX11_block_423 (by decide) ?_
                    refine j_dup2 hX dX11_block_424 rfl rfl ?_
                    refine j_ialdN hX 3 2 rfl (by omega) (by omega) dX11_block_425 ?_
                    refine j_iload hX 4 dX11_block_426 rfl ?_
                    refine j_iadd hX dX11_block_428 ?_
                    refine j_iastN hX 3 2 rfl (by omega) (by omega) [oB h 11 (mO b v), bA g (b 2) 1400 f, iA g (b 5) 64 G, iA g (b 6) 8 (upd T1 2 ((T1 2) + vc)), iA g (b 8) 64 rt] rfl dX11_block_429 ?_
                    obtain ⟨T2, eT2⟩ : ∃ z, z = upd T1 2 ((T1 2) + vc) := ⟨_, rfl⟩
                    refine j_w [oB h 11 (mO b v), bA g (b 2) 1400 f, iA g (b 5) 64 G, iA g (b 6) 8 T2, iA g (b 8) 64 rt] (by rw [eT2]) ?_
                    refine j_pc 430 rfl ?_
                    refine j_aload_n hX 0 dX11_block_430 rfl ?_
                    refine j_get hX in11 11 0 6 (v := .ref (b 6)) rfl rfl (by decide) (List.mem_of_getElem? (i := 3) rfl) rfl rfl dX11_block_431 ?_
                    refine j_iconst hX (3) dX11_block_434 (by decide) ?_
                    refine j_dup2 hX dX11_block_435 rfl rfl ?_
                    refine j_ialdN hX 3 3 rfl (by omega) (by omega) dX11_block_436 ?_
                    refine j_iload hX 5 dX11_block_437 rfl ?_
                    refine j_iadd hX dX11_block_439 ?_
                    refine j_iastN hX 3 3 rfl (by omega) (by omega) [oB h 11 (mO b v), bA g (b 2) 1400 f, iA g (b 5) 64 G, iA g (b 6) 8 (upd T2 3 ((T2 3) + vd)), iA g (b 8) 64 rt] rfl dX11_block_440 ?_
                    obtain ⟨T3, eT3⟩ : ∃ z, z = upd T2 3 ((T2 3) + vd) := ⟨_, rfl⟩
                    refine j_w [oB h 11 (mO b v), bA g (b 2) 1400 f, iA g (b 5) 64 G, iA g (b 6) 8 T3, iA g (b 8) 64 rt] (by rw [eT3]) ?_
                    refine j_pc 441 rfl ?_
                    refine j_aload_n hX 0 dX11_block_441 rfl ?_
                    refine j_get hX in11 11 0 6 (v := .ref (b 6)) rfl rfl (by decide) (List.mem_of_getElem? (i := 3) rfl) rfl rfl dX11_block_442 ?_
                    refine j_iconst hX (4) dX11_block_445 (by decide) ?_
                    refine j_dup2 hX dX11_block_446 rfl rfl ?_
                    refine j_ialdN hX 3 4 rfl (by omega) (by omega) dX11_block_447 ?_
                    refine j_iload hX 6 dX11_block_448 rfl ?_
                    refine j_iadd hX dX11_block_450 ?_
                    refine j_iastN hX 3 4 rfl (by omega) (by omega) [oB h 11 (mO b v), bA g (b 2) 1400 f, iA g (b 5) 64 G, iA g (b 6) 8 (upd T3 4 ((T3 4) + ve)), iA g (b 8) 64 rt] rfl dX11_block_451 ?_
                    obtain ⟨T4, eT4⟩ : ∃ z, z = upd T3 4 ((T3 4) + ve) := ⟨_, rfl⟩
                    refine j_w [oB h 11 (mO b v), bA g (b 2) 1400 f, iA g (b 5) 64 G, iA g (b 6) 8 T4, iA g (b 8) 64 rt] (by rw [eT4]) ?_
                    refine j_pc 452 rfl ?_
                    refine j_aload_n hX 0 dX11_block_452 rfl ?_
                    refine j_get hX in11 11 0 6 (v := .ref (b 6)) rfl rfl (by decide) (List.mem_of_getElem? (i := 3) rfl) rfl rfl dX11_block_453 ?_
                    refine j_iconst hX (5) dX11_block_456 (by decide) ?_
                    refine j_dup2 hX dX11_block_457 rfl rfl ?_
                    refine j_ialdN hX 3 5 rfl (by omega) (by omega) dX11_block_458 ?_
                    refine j_iload hX 7 dX11_block_459 rfl ?_
                    refine j_iadd hX dX11_block_461 ?_
                    refine j_iastN hX 3 5 rfl (by omega) (by omega) [oB h 11 (mO b v), bA g (b 2) 1400 f, iA g (b 5) 64 G, iA g (b 6) 8 (upd T4 5 ((T4 5) + vf)), iA g (b 8) 64 rt] rfl dX11_block_462 ?_
                    obtain ⟨T5, eT5⟩ : ∃ z, z = upd T4 5 ((T4 5) + vf) := ⟨_, rfl⟩
                    refine j_w [oB h 11 (mO b v), bA g (b 2) 1400 f, iA g (b 5) 64 G, iA g (b 6) 8 T5, iA g (b 8) 64 rt] (by rw [eT5]) ?_
                    refine j_pc 463 rfl ?_
                    refine j_aload_n hX 0 dX11_block_463 rfl ?_
                    refine j_get hX in11 11 0 6 (v := .ref (b 6)) rfl rfl (by decide) (List.mem_of_getElem? (i := 3) rfl) rfl rfl dX11_block_464 ?_
                    refine j_bipush hX (6) dX11_block_467 (by decide) ?_
                    refine j_dup2 hX dX11_block_469 rfl rfl ?_
                    refine j_ialdN hX 3 6 rfl (by omega) (by omega) dX11_block_470 ?_
                    refine j_iload hX 8 dX11_block_471 rfl ?_
                    refine j_iadd hX dX11_block_473 ?_
                    refine j_iastN hX 3 6 rfl (by omega) (by omega) [oB h 11 (mO b v), bA g (b 2) 1400 f, iA g (b 5) 64 G, iA g (b 6) 8 (upd T5 6 ((T5 6) + vg)), iA g (b 8) 64 rt] rfl dX11_block_474 ?_
                    obtain ⟨T6, eT6⟩ : ∃ z, z = upd T5 6 ((T5 6) + vg) := ⟨_, rfl⟩
                    refine j_w [oB h 11 (mO b v), bA g (b 2) 1400 f, iA g (b 5) 64 G, iA g (b 6) 8 T6, iA g (b 8) 64 rt] (by rw [eT6]) ?_
                    refine j_pc 475 rfl ?_
                    refine j_aload_n hX 0 dX11_block_475 rfl ?_
                    refine j_get hX in11 11 0 6 (v := .ref (b 6)) rfl rfl (by decide) (List.mem_of_getElem? (i := 3) rfl) rfl rfl dX11_block_476 ?_
                    refine j_bipush hX (7) dX11_block_479 (by decide) ?_
                    refine j_dup2 hX dX11_block_481 rfl rfl ?_
                    refine j_ialdN hX 3 7 rfl (by omega) (by omega) dX11_block_482 ?_
                    refine j_iload hX 9 dX11_block_483 rfl ?_
                    refine j_iadd hX dX11_block_485 ?_
                    refine j_iastN hX 3 7 rfl (by omega) (by omega) [oB h 11 (mO b v), bA g (b 2) 1400 f, iA g (b 5) 64 G, iA g (b 6) 8 (upd T6 7 ((T6 7) + vh)), iA g (b 8) 64 rt] rfl dX11_block_486 ?_
                    obtain ⟨T7, eT7⟩ : ∃ z, z = upd T6 7 ((T6 7) + vh) := ⟨_, rfl⟩
                    refine j_w [oB h 11 (mO b v), bA g (b 2) 1400 f, iA g (b 5) 64 G, iA g (b 6) 8 T7, iA g (b 8) 64 rt] (by rw [eT7]) ?_
                    refine j_pc 487 rfl ?_
                    exact hret (G, T7) (by obtain rfl : i = 64 := (by omega); show st8 T7 = _; rw [blk, ← rds_congr (w := G) (w2 := lF (Wl f t 64)) _ 64 (fun j hj => W_at hG64 hj), ← hx]; exact st8_chain eT0 eT1 eT2 eT3 eT4 eT5 eT6 eT7) 487 _ .return_ dX11_block_487 rfl
                  · skip
                    refine j_iload hX 9 dX11_block_266 rfl ?_
                    refine j_iload hX 6 dX11_block_268 rfl ?_
                    refine j_bipush hX (6) dX11_block_270 (by decide) ?_
                    refine j_callS (b := 0) (C := "") hX 2 (c_right l g ve 6 ) gX11_block_X11_right (by decide +kernel) rfl ⟨rfl, rfl⟩ ⟨Nat.le_of_ble_eq_true rfl, Nat.le_of_ble_eq_true rfl⟩ [] rfl (by decide) (fun _ => rfl) rfl [.int vh] rfl (Nat.le_of_ble_eq_true rfl) ⟨Nat.le_refl _, Nat.le_refl _⟩ dX11_block_272 ?_
                    intro _ hu_10
                    refine j_w [oB h 11 (mO b v), bA g (b 2) 1400 f, iA g (b 5) 64 G, iA g (b 6) 8 F, iA g (b 8) 64 rt] rfl ?_
                    refine j_st [.int (ror ve 6), .int vh] rfl ?_
                    refine j_iload hX 6 dX11_block_275 rfl ?_
                    refine j_bipush hX (11) dX11_block_277 (by decide) ?_
                    refine j_callS (b := 0) (C := "") hX 2 (c_right l g ve 11 ) gX11_block_X11_right (by decide +kernel) rfl ⟨rfl, rfl⟩ ⟨Nat.le_of_ble_eq_true rfl, Nat.le_of_ble_eq_true rfl⟩ [] rfl (by decide) (fun _ => rfl) rfl [.int (ror ve 6), .int vh] rfl (Nat.le_of_ble_eq_true rfl) ⟨Nat.le_refl _, Nat.le_refl _⟩ dX11_block_279 ?_
                    intro _ hu_11
                    refine j_w [oB h 11 (mO b v), bA g (b 2) 1400 f, iA g (b 5) 64 G, iA g (b 6) 8 F, iA g (b 8) 64 rt] rfl ?_
                    refine j_st [.int (ror ve 11), .int (ror ve 6), .int vh] rfl ?_
                    refine j_pc 282 rfl ?_
                    refine j_ixor hX dX11_block_282 ?_
                    refine j_iload hX 6 dX11_block_283 rfl ?_
                    refine j_bipush hX (25) dX11_block_285 (by decide) ?_
                    refine j_callS (b := 0) (C := "") hX 2 (c_right l g ve 25 ) gX11_block_X11_right (by decide +kernel) rfl ⟨rfl, rfl⟩ ⟨Nat.le_of_ble_eq_true rfl, Nat.le_of_ble_eq_true rfl⟩ [] rfl (by decide) (fun _ => rfl) rfl [.int ((ror ve 6) ^^^ (ror ve 11)), .int vh] rfl (Nat.le_of_ble_eq_true rfl) ⟨Nat.le_refl _, Nat.le_refl _⟩ dX11_block_287 ?_
                    intro _ hu_12
                    refine j_w [oB h 11 (mO b v), bA g (b 2) 1400 f, iA g (b 5) 64 G, iA g (b 6) 8 F, iA g (b 8) 64 rt] rfl ?_
                    refine j_st [.int (ror ve 25), .int ((ror ve 6) ^^^ (ror ve 11)), .int vh] rfl ?_
                    refine j_ixor hX dX11_block_290 ?_
                    refine j_iadd hX dX11_block_291 ?_
                    refine j_iload hX 6 dX11_block_292 rfl ?_
                    refine j_iload hX 7 dX11_block_294 rfl ?_
                    refine j_pc 296 rfl ?_
                    refine j_iand hX dX11_block_296 ?_
                    refine j_iload hX 6 dX11_block_297 rfl ?_
                    refine j_iconst hX (-1) dX11_block_299 (by decide) ?_
                    refine j_ixor hX dX11_block_300 ?_
                    refine j_iload hX 8 dX11_block_301 rfl ?_
                    refine j_iand hX dX11_block_303 ?_
                    refine j_ixor hX dX11_block_304 ?_
                    refine j_iadd hX dX11_block_305 ?_
                    refine j_pc 306 rfl ?_
                    refine j_aload_n hX 0 dX11_block_306 rfl ?_
                    refine j_get hX in11 11 0 8 (v := .ref (b 8)) rfl rfl (by decide) (List.mem_of_getElem? (i := 4) rfl) rfl rfl dX11_block_307 ?_
                    refine j_iload hX 10 dX11_block_310 rfl ?_
                    refine j_ialdN hX 4 i rfl (by omega) (by omega) dX11_block_312 ?_
                    refine j_iadd hX dX11_block_313 ?_
                    refine j_aload_n hX 0 dX11_block_314 rfl ?_
                    refine j_get hX in11 11 0 5 (v := .ref (b 5)) rfl rfl (by decide) (List.mem_of_getElem? (i := 1) rfl) rfl rfl dX11_block_315 ?_
                    refine j_iload hX 10 dX11_block_318 rfl ?_
                    refine j_pc 320 rfl ?_
                    refine j_ialdN hX 2 i rfl (by omega) (by omega) dX11_block_320 ?_
                    refine j_iadd hX dX11_block_321 ?_
                    refine j_topi (fun pp epp => ?_)
                    refine j_istore hX [(11, .int pp), (0, .ref h), (1, .int (nI t)), (2, .int va), (3, .int vb), (4, .int vc), (5, .int vd), (6, .int ve), (7, .int vf), (8, .int vg), (9, .int vh), (10, .int (nI i))] dX11_block_322 (by decide) rfl ?_
                    refine j_iload_n hX 3 dX11_block_324 rfl ?_
                    refine j_iconst hX (2) dX11_block_325 (by decide) ?_
                    refine j_callS (b := 0) (C := "") hX 2 (c_right l g va 2 ) gX11_block_X11_right (by decide +kernel) rfl ⟨rfl, rfl⟩ ⟨Nat.le_of_ble_eq_true rfl, Nat.le_of_ble_eq_true rfl⟩ [] rfl (by decide) (fun _ => rfl) rfl [] rfl (Nat.le_of_ble_eq_true rfl) ⟨Nat.le_refl _, Nat.le_refl _⟩ dX11_block_326 ?_
                    intro _ hu_13
                    refine j_w [oB h 11 (mO b v), bA g (b 2) 1400 f, iA g (b 5) 64 G, iA g (b 6) 8 F, iA g (b 8) 64 rt] rfl ?_
                    refine j_st [.int (ror va 2)] rfl ?_
                    refine j_iload_n hX 3 dX11_block_329 rfl ?_
                    refine j_bipush hX (13) dX11_block_330 (by decide) ?_
                    refine j_pc 332 rfl ?_
                    refine j_callS (b := 0) (C := "") hX 2 (c_right l g va 13 ) gX11_block_X11_right (by decide +kernel) rfl ⟨rfl, rfl⟩ ⟨Nat.le_of_ble_eq_true rfl, Nat.le_of_ble_eq_true rfl⟩ [] rfl (by decide) (fun _ => rfl) rfl [.int (ror va 2)] rfl (Nat.le_of_ble_eq_true rfl) ⟨Nat.le_refl _, Nat.le_refl _⟩ dX11_block_332 ?_
                    intro _ hu_14
                    refine j_w [oB h 11 (mO b v), bA g (b 2) 1400 f, iA g (b 5) 64 G, iA g (b 6) 8 F, iA g (b 8) 64 rt] rfl ?_
                    refine j_st [.int (ror va 13), .int (ror va 2)] rfl ?_
                    refine j_ixor hX dX11_block_335 ?_
                    refine j_iload_n hX 3 dX11_block_336 rfl ?_
                    refine j_bipush hX (22) dX11_block_337 (by decide) ?_
                    refine j_callS (b := 0) (C := "") hX 2 (c_right l g va 22 ) gX11_block_X11_right (by decide +kernel) rfl ⟨rfl, rfl⟩ ⟨Nat.le_of_ble_eq_true rfl, Nat.le_of_ble_eq_true rfl⟩ [] rfl (by decide) (fun _ => rfl) rfl [.int ((ror va 2) ^^^ (ror va 13))] rfl (Nat.le_of_ble_eq_true rfl) ⟨Nat.le_refl _, Nat.le_refl _⟩ dX11_block_339 ?_
                    intro _ hu_15
                    refine j_w [oB h 11 (mO b v), bA g (b 2) 1400 f, iA g (b 5) 64 G, iA g (b 6) 8 F, iA g (b 8) 64 rt] rfl ?_
                    refine j_st [.int (ror va 22), .int ((ror va 2) ^^^ (ror va 13))] rfl ?_
                    refine j_ixor hX dX11_block_342 ?_
                    refine j_iload_n hX 3 dX11_block_343 rfl ?_
                    refine j_iload_n hX 4 dX11_block_344 rfl ?_
                    refine j_pc 345 rfl ?_
                    refine j_iand hX dX11_block_345 ?_
                    refine j_iload_n hX 3 dX11_block_346 rfl ?_
                    refine j_iload hX 5 dX11_block_347 rfl ?_
                    refine j_iand hX dX11_block_349 ?_
                    refine j_ixor hX dX11_block_350 ?_
                    refine j_iload_n hX 4 dX11_block_351 rfl ?_
                    refine j_iload hX 5 dX11_block_352 rfl ?_
                    refine j_iand hX dX11_block_354 ?_
                    refine j_pc 355 rfl ?_
                    refine j_ixor hX dX11_block_355 ?_
                    refine j_iadd hX dX11_block_356 ?_
                    refine j_topi (fun qq eqq => ?_)
                    refine j_istore hX [(12, .int qq), (11, .int pp), (0, .ref h), (1, .int (nI t)), (2, .int va), (3, .int vb), (4, .int vc), (5, .int vd), (6, .int ve), (7, .int vf), (8, .int vg), (9, .int vh), (10, .int (nI i))] dX11_block_357 (by decide) rfl ?_
                    refine j_iload hX 10 dX11_block_359 rfl ?_
                    refine j_istore hX [(9, .int vg), (12, .int qq), (11, .int pp), (0, .ref h), (1, .int (nI t)), (2, .int va), (3, .int vb), (4, .int vc), (5, .int vd), (6, .int ve), (7, .int vf), (8, .int vg), (10, .int (nI i))] dX11_block_361 (by decide) rfl ?_
                    refine j_iload hX 10 dX11_block_363 rfl ?_
                    refine j_istore hX [(8, .int vf), (9, .int vg), (12, .int qq), (11, .int pp), (0, .ref h), (1, .int (nI t)), (2, .int va), (3, .int vb), (4, .int vc), (5, .int vd), (6, .int ve), (7, .int vf), (10, .int (nI i))] dX11_block_365 (by decide) rfl ?_
                    refine j_iload hX 10 dX11_block_367 rfl ?_
                    refine j_pc 369 rfl ?_
                    refine j_istore hX [(7, .int ve), (8, .int vf), (9, .int vg), (12, .int qq), (11, .int pp), (0, .ref h), (1, .int (nI t)), (2, .int va), (3, .int vb), (4, .int vc), (5, .int vd), (6, .int ve), (10, .int (nI i))] dX11_block_369 (by decide) rfl ?_
                    refine j_iload hX 10 dX11_block_371 rfl ?_
                    refine j_iload hX 4 dX11_block_373 rfl ?_
                    refine j_iadd hX dX11_block_375 ?_
                    refine j_istore hX [(6, .int (vd + pp)), (7, .int ve), (8, .int vf), (9, .int vg), (12, .int qq), (11, .int pp), (0, .ref h), (1, .int (nI t)), (2, .int va), (3, .int vb), (4, .int vc), (5, .int vd), (10, .int (nI i))] dX11_block_376 (by decide) rfl ?_
                    refine j_iload hX 10 dX11_block_378 rfl ?_
                    refine j_istore hX [(5, .int vc), (6, .int (vd + pp)), (7, .int ve), (8, .int vf), (9, .int vg), (12, .int qq), (11, .int pp), (0, .ref h), (1, .int (nI t)), (2, .int va), (3, .int vb), (4, .int vc), (10, .int (nI i))] dX11_block_380 (by decide) rfl ?_
                    refine j_iload_n hX 10 dX11_block_382 rfl ?_
                    refine j_pc 383 rfl ?_
                    refine j_istore hX [(4, .int vb), (5, .int vc), (6, .int (vd + pp)), (7, .int ve), (8, .int vf), (9, .int vg), (12, .int qq), (11, .int pp), (0, .ref h), (1, .int (nI t)), (2, .int va), (3, .int vb), (10, .int (nI i))] dX11_block_383 (by decide) rfl ?_
                    refine j_iload_n hX 10 dX11_block_385 rfl ?_
                    refine j_istore_n hX 3 [(3, .int va), (4, .int vb), (5, .int vc), (6, .int (vd + pp)), (7, .int ve), (8, .int vf), (9, .int vg), (12, .int qq), (11, .int pp), (0, .ref h), (1, .int (nI t)), (2, .int va), (10, .int (nI i))] dX11_block_386 rfl (by decide) rfl ?_
                    refine j_iload hX 8 dX11_block_387 rfl ?_
                    refine j_iload hX 7 dX11_block_389 rfl ?_
                    refine j_iadd hX dX11_block_391 ?_
                    refine j_istore_n hX 2 [(2, .int (pp + qq)), (3, .int va), (4, .int vb), (5, .int vc), (6, .int (vd + pp)), (7, .int ve), (8, .int vf), (9, .int vg), (12, .int qq), (11, .int pp), (0, .ref h), (1, .int (nI t)), (10, .int (nI i))] dX11_block_392 rfl (by decide) rfl ?_
                    refine j_iincN hX i (i + 1) [(10, .int (nI (i + 1))), (2, .int (pp + qq)), (3, .int va), (4, .int vb), (5, .int vc), (6, .int (vd + pp)), (7, .int ve), (8, .int vf), (9, .int vg), (12, .int qq), (11, .int pp), (0, .ref h), (1, .int (nI t))] 12 dX11_block_393 rfl (nI_1 _) (by decide) rfl ?_
                    refine j_pc 396 rfl ?_
                    refine j_goto hX 259 dX11_block_396 (by decide) ?_
                    refine j_perm [(0, .ref h), (1, .int (nI t)), (2, .int (pp + qq)), (3, .int va), (4, .int vb), (5, .int vc), (6, .int (vd + pp)), (7, .int ve), (8, .int vf), (9, .int vg), (10, .int (nI (i + 1)))] [11, 12, 1, 2, 3, 4, 5, 6, 7, 8, 0] rfl ?_
                    exact ih_9 (pp + qq) va vb vc (vd + pp) ve vf vg (i + 1) (by omega) (by omega) (by rw [rds, ← hx, epp, eqq, hrt i (by omega)]; rfl)
              refine j_perm [(0, .ref h), (1, .int (nI t)), (2, .int (F 0)), (3, .int (F 1)), (4, .int (F 2)), (5, .int (F 3)), (6, .int (F 4)), (7, .int (F 5)), (8, .int (F 6)), (9, .int (F 7)), (10, .int (nI 0))] [9, 10, 8, 7, 6, 5, 4, 3, 2, 1, 0] rfl ?_
              exact lp_7 _ (F 0) (F 1) (F 2) (F 3) (F 4) (F 5) (F 6) (F 7) 0 (Nat.lt_succ_self _) (by omega) rfl
            · skip
              refine j_aload_n hX 0 dX11_block_93 rfl ?_
              refine j_get hX in11 11 0 5 (v := .ref (b 5)) rfl rfl (by decide) (List.mem_of_getElem? (i := 1) rfl) rfl rfl dX11_block_94 ?_
              refine j_iload_n hX 2 dX11_block_97 rfl ?_
              refine j_bipush hX (15) dX11_block_98 (by decide) ?_
              refine j_isubN hX i 15 (by omega) dX11_block_100 ?_
              refine j_ialdN hX 2 (i - 15) rfl (by omega) (by omega) dX11_block_101 ?_
              refine j_istore_n hX 3 [(3, .int (G (i - 15))), (0, .ref h), (1, .int (nI t)), (2, .int (nI i))] dX11_block_102 rfl (by decide) rfl ?_
              refine j_pc 103 rfl ?_
              refine j_aload_n hX 1 dX11_block_103 rfl ?_
              refine j_get hX in11 11 0 5 (v := .ref (b 5)) rfl rfl (by decide) (List.mem_of_getElem? (i := 1) rfl) rfl rfl dX11_block_104 ?_
              refine j_iload_n hX 3 dX11_block_107 rfl ?_
              refine j_iconst hX (2) dX11_block_108 (by decide) ?_
              refine j_isubN hX i 2 (by omega) dX11_block_109 ?_
              refine j_ialdN hX 2 (i - 2) rfl (by omega) (by omega) dX11_block_110 ?_
              refine j_istore hX [(4, .int (G (i - 2))), (3, .int (G (i - 15))), (0, .ref h), (1, .int (nI t)), (2, .int (nI i))] dX11_block_111 (by decide) rfl ?_
              refine j_iload_n hX 1 dX11_block_113 rfl ?_
              refine j_pc 114 rfl ?_
              refine j_bipush hX (7) dX11_block_114 (by decide) ?_
              refine j_callS (b := 0) (C := "") hX 2 (c_right l g (G (i - 15)) 7 ) gX11_block_X11_right (by decide +kernel) rfl ⟨rfl, rfl⟩ ⟨Nat.le_of_ble_eq_true rfl, Nat.le_of_ble_eq_true rfl⟩ [] rfl (by decide) (fun _ => rfl) rfl [] rfl (Nat.le_of_ble_eq_true rfl) ⟨Nat.le_refl _, Nat.le_refl _⟩ dX11_block_116 ?_
              intro _ hu_16
              refine j_w [oB h 11 (mO b v), bA g (b 2) 1400 f, iA g (b 5) 64 G, iA g (b 6) 8 F, iA g (b 8) 64 rt] rfl ?_
              refine j_st [.int (ror (G (i - 15)) 7)] rfl ?_
              refine j_iload_n hX 1 dX11_block_119 rfl ?_
              refine j_bipush hX (18) dX11_block_120 (by decide) ?_
              refine j_callS (b := 0) (C := "") hX 2 (c_right l g (G (i - 15)) 18 ) gX11_block_X11_right (by decide +kernel) rfl ⟨rfl, rfl⟩ ⟨Nat.le_of_ble_eq_true rfl, Nat.le_of_ble_eq_true rfl⟩ [] rfl (by decide) (fun _ => rfl) rfl [.int (ror (G (i - 15)) 7)] rfl (Nat.le_of_ble_eq_true rfl) ⟨Nat.le_refl _, Nat.le_refl _⟩ dX11_block_122 ?_
              intro _ hu_17
              refine j_w [oB h 11 (mO b v), bA g (b 2) 1400 f, iA g (b 5) 64 G, iA g (b 6) 8 F, iA g (b 8) 64 rt] rfl ?_
              refine j_st [.int (ror (G (i - 15)) 18), .int (ror (G (i - 15)) 7)] rfl ?_
              refine j_ixor hX dX11_block_125 ?_
              refine j_iload_n hX 1 dX11_block_126 rfl ?_
              refine j_iconst hX (3) dX11_block_127 (by decide) ?_
              refine j_pc 128 rfl ?_
              refine j_iushr hX dX11_block_128 ?_
              refine j_ixor hX dX11_block_129 ?_
              refine j_istore hX [(5, .int (((ror (G (i - 15)) 7) ^^^ (ror (G (i - 15)) 18)) ^^^ (iush (G (i - 15)) 3))), (4, .int (G (i - 2))), (3, .int (G (i - 15))), (0, .ref h), (1, .int (nI t)), (2, .int (nI i))] dX11_block_130 (by decide) rfl ?_
              refine j_iload hX 1 dX11_block_132 rfl ?_
              refine j_bipush hX (17) dX11_block_134 (by decide) ?_
              refine j_callS (b := 0) (C := "") hX 2 (c_right l g (G (i - 2)) 17 ) gX11_block_X11_right (by decide +kernel) rfl ⟨rfl, rfl⟩ ⟨Nat.le_of_ble_eq_true rfl, Nat.le_of_ble_eq_true rfl⟩ [] rfl (by decide) (fun _ => rfl) rfl [] rfl (Nat.le_of_ble_eq_true rfl) ⟨Nat.le_refl _, Nat.le_refl _⟩ dX11_block_136 ?_
              intro _ hu_18
              refine j_w [oB h 11 (mO b v), bA g (b 2) 1400 f, iA g (b 5) 64 G, iA g (b 6) 8 F, iA g (b 8) 64 rt] rfl ?_
              refine j_st [.int (ror (G (i - 2)) 17)] rfl ?_
              refine j_iload hX 1 dX11_block_139 rfl ?_
              refine j_bipush hX (19) dX11_block_141 (by decide) ?_
              refine j_pc 143 rfl ?_
              refine j_callS (b := 0) (C := "") hX 2 (c_right l g (G (i - 2)) 19 ) gX11_block_X11_right (by decide +kernel) rfl ⟨rfl, rfl⟩ ⟨Nat.le_of_ble_eq_true rfl, Nat.le_of_ble_eq_true rfl⟩ [] rfl (by decide) (fun _ => rfl) rfl [.int (ror (G (i - 2)) 17)] rfl (Nat.le_of_ble_eq_true rfl) ⟨Nat.le_refl _, Nat.le_refl _⟩ dX11_block_143 ?_
              intro _ hu_19
              refine j_w [oB h 11 (mO b v), bA g (b 2) 1400 f, iA g (b 5) 64 G, iA g (b 6) 8 F, iA g (b 8) 64 rt] rfl ?_
              refine j_st [.int (ror (G (i - 2)) 19), .int (ror (G (i - 2)) 17)] rfl ?_
              refine j_ixor hX dX11_block_146 ?_
              refine j_iload hX 1 dX11_block_147 rfl ?_
              refine j_bipush hX (10) dX11_block_149 (by decide) ?_
              refine j_iushr hX dX11_block_151 ?_
              refine j_ixor hX dX11_block_152 ?_
              refine j_istore hX [(6, .int (((ror (G (i - 2)) 17) ^^^ (ror (G (i - 2)) 19)) ^^^ (iush (G (i - 2)) 10))), (5, .int (((ror (G (i - 15)) 7) ^^^ (ror (G (i - 15)) 18)) ^^^ (iush (G (i - 15)) 3))), (4, .int (G (i - 2))), (3, .int (G (i - 15))), (0, .ref h), (1, .int (nI t)), (2, .int (nI i))] dX11_block_153 (by decide) rfl ?_
              refine j_aload_n hX 4 dX11_block_155 rfl ?_
              refine j_pc 156 rfl ?_
              refine j_get hX in11 11 0 5 (v := .ref (b 5)) rfl rfl (by decide) (List.mem_of_getElem? (i := 1) rfl) rfl rfl dX11_block_156 ?_
              refine j_iload_n hX 6 dX11_block_159 rfl ?_
              refine j_iload hX 0 dX11_block_160 rfl ?_
              refine j_aload_n hX 4 dX11_block_162 rfl ?_
              refine j_get hX in11 11 0 5 (v := .ref (b 5)) rfl rfl (by decide) (List.mem_of_getElem? (i := 1) rfl) rfl rfl dX11_block_163 ?_
              refine j_iload_n hX 6 dX11_block_166 rfl ?_
              refine j_bipush hX (7) dX11_block_167 (by decide) ?_
              refine j_isubN hX i 7 (by omega) dX11_block_169 ?_
              refine j_pc 170 rfl ?_
              refine j_ialdN hX 2 (i - 7) rfl (by omega) (by omega) dX11_block_170 ?_
              refine j_iadd hX dX11_block_171 ?_
              refine j_iload hX 1 dX11_block_172 rfl ?_
              refine j_iadd hX dX11_block_174 ?_
              refine j_aload_n hX 4 dX11_block_175 rfl ?_
              refine j_get hX in11 11 0 5 (v := .ref (b 5)) rfl rfl (by decide) (List.mem_of_getElem? (i := 1) rfl) rfl rfl dX11_block_176 ?_
              refine j_iload_n hX 6 dX11_block_179 rfl ?_
              refine j_bipush hX (16) dX11_block_180 (by decide) ?_
              refine j_pc 182 rfl ?_
              refine j_isubN hX i 16 (by omega) dX11_block_182 ?_
              refine j_ialdN hX 2 (i - 16) rfl (by omega) (by omega) dX11_block_183 ?_
              refine j_iadd hX dX11_block_184 ?_
              refine j_iastN hX 2 i rfl (by omega) (by omega) [oB h 11 (mO b v), bA g (b 2) 1400 f, iA g (b 5) 64 (upd G i ((((((ror (G (i - 2)) 17) ^^^ (ror (G (i - 2)) 19)) ^^^ (iush (G (i - 2)) 10)) + (G (i - 7))) + (((ror (G (i - 15)) 7) ^^^ (ror (G (i - 15)) 18)) ^^^ (iush (G (i - 15)) 3))) + (G (i - 16)))), iA g (b 6) 8 F, iA g (b 8) 64 rt] rfl dX11_block_185 ?_
              refine j_iincN hX i (i + 1) [(2, .int (nI (i + 1))), (6, .int (((ror (G (i - 2)) 17) ^^^ (ror (G (i - 2)) 19)) ^^^ (iush (G (i - 2)) 10))), (5, .int (((ror (G (i - 15)) 7) ^^^ (ror (G (i - 15)) 18)) ^^^ (iush (G (i - 15)) 3))), (4, .int (G (i - 2))), (3, .int (G (i - 15))), (0, .ref h), (1, .int (nI t))] 6 dX11_block_186 rfl (nI_1 _) (by decide) rfl ?_
              refine j_goto hX 87 dX11_block_189 (by decide) ?_
              refine j_perm [(0, .ref h), (1, .int (nI t)), (2, .int (nI (i + 1)))] [5, 6, 0] rfl ?_
              exact ih_6 (i + 1) (upd G i ((((((ror (G (i - 2)) 17) ^^^ (ror (G (i - 2)) 19)) ^^^ (iush (G (i - 2)) 10)) + (G (i - 7))) + (((ror (G (i - 15)) 7) ^^^ (ror (G (i - 15)) 18)) ^^^ (iush (G (i - 15)) 3))) + (G (i - 16)))) (by omega) (by omega) (by omega) (W_step hG (by omega))
        refine j_perm [(0, .ref h), (1, .int (nI t)), (2, .int (nI 16))] [1, 2, 0] rfl ?_
        exact lp_4 _ 16 G (Nat.lt_succ_self _) (by omega) (by omega) (by rw [hG, show i = 16 by omega])
      · skip
        refine j_iload_n hX 1 dX11_block_8 rfl ?_
        refine j_iconst hX (4) dX11_block_9 (by decide) ?_
        refine j_pc 10 rfl ?_
        refine j_iload_n hX 2 dX11_block_10 rfl ?_
        refine j_imulN hX 4 i dX11_block_11 ?_
        refine j_iaddN hX t (4 * i) dX11_block_12 ?_
        refine j_istore_n hX 3 [(3, .int (nI (t + (4 * i)))), (0, .ref h), (1, .int (nI t)), (2, .int (nI i))] dX11_block_13 rfl (by decide) rfl ?_
        refine j_aload_n hX 1 dX11_block_14 rfl ?_
        refine j_get hX in11 11 0 5 (v := .ref (b 5)) rfl rfl (by decide) (List.mem_of_getElem? (i := 1) rfl) rfl rfl dX11_block_15 ?_
        refine j_iload_n hX 3 dX11_block_18 rfl ?_
        refine j_aload_n hX 1 dX11_block_19 rfl ?_
        refine j_pc 20 rfl ?_
        refine j_get hX in11 11 0 2 (v := .ref (b 2)) rfl rfl (by decide) (List.mem_of_getElem? (i := 2) rfl) rfl rfl dX11_block_20 ?_
        refine j_iload_n hX 0 dX11_block_23 rfl ?_
        refine j_baldN hX 1 (t + (4 * i)) rfl (by omega) (by omega) dX11_block_24 ?_
        refine j_sipush hX (255) dX11_block_25 (by decide) ?_
        refine j_iand hX dX11_block_28 ?_
        refine j_bipush hX (24) dX11_block_29 (by decide) ?_
        refine j_ishl hX dX11_block_31 ?_
        refine j_topeq _ ((f (t + (4 * i))) <<< (24 &&& 31)) (bwA _ 0) ?_
        refine j_aload_n hX 1 dX11_block_32 rfl ?_
        refine j_pc 33 rfl ?_
        refine j_get hX in11 11 0 2 (v := .ref (b 2)) rfl rfl (by decide) (List.mem_of_getElem? (i := 2) rfl) rfl rfl dX11_block_33 ?_
        refine j_iload_n hX 0 dX11_block_36 rfl ?_
        refine j_iconst hX (1) dX11_block_37 (by decide) ?_
        refine j_iaddN hX (t + (4 * i)) 1 dX11_block_38 ?_
        refine j_baldN hX 1 ((t + (4 * i)) + 1) rfl (by omega) (by omega) dX11_block_39 ?_
        refine j_sipush hX (255) dX11_block_40 (by decide) ?_
        refine j_iand hX dX11_block_43 ?_
        refine j_bipush hX (16) dX11_block_44 (by decide) ?_
        refine j_pc 46 rfl ?_
        refine j_ishl hX dX11_block_46 ?_
        refine j_ior hX dX11_block_47 ?_
        refine j_aload_n hX 1 dX11_block_48 rfl ?_
        refine j_get hX in11 11 0 2 (v := .ref (b 2)) rfl rfl (by decide) (List.mem_of_getElem? (i := 2) rfl) rfl rfl dX11_block_49 ?_
        refine j_iload_n hX 0 dX11_block_52 rfl ?_
        refine j_iconst hX (2) dX11_block_53 (by decide) ?_
        refine j_iaddN hX (t + (4 * i)) 2 dX11_block_54 ?_
        refine j_baldN hX 1 ((t + (4 * i)) + 2) rfl (by omega) (by omega) dX11_block_55 ?_
        refine j_pc 56 rfl ?_
        refine j_sipush hX (255) dX11_block_56 (by decide) ?_
        refine j_iand hX dX11_block_59 ?_
        refine j_bipush hX (8) dX11_block_60 (by decide) ?_
        refine j_ishl hX dX11_block_62 ?_
        refine j_ior hX dX11_block_63 ?_
        refine j_aload_n hX 1 dX11_block_64 rfl ?_
        refine j_get hX in11 11 0 2 (v := .ref (b 2)) rfl rfl (by decide) (List.mem_of_getElem? (i := 2) rfl) rfl rfl dX11_block_65 ?_
        refine j_iload_n hX 0 dX11_block_68 rfl ?_
        refine j_pc 69 rfl ?_
        refine j_iconst hX (3) dX11_block_69 (by decide) ?_
        refine j_iaddN hX (t + (4 * i)) 3 dX11_block_70 ?_
        refine j_baldN hX 1 ((t + (4 * i)) + 3) rfl (by omega) (by omega) dX11_block_71 ?_
        refine j_sipush hX (255) dX11_block_72 (by decide) ?_
        refine j_iand hX dX11_block_75 ?_
        refine j_ior hX dX11_block_76 ?_
        refine j_iastN hX 2 i rfl (by omega) (by omega) [oB h 11 (mO b v), bA g (b 2) 1400 f, iA g (b 5) 64 (upd G i (((((f (t + (4 * i))) <<< (24 &&& 31)) ||| (((f ((t + (4 * i)) + 1)) &&& 255) <<< (16 &&& 31))) ||| (((f ((t + (4 * i)) + 2)) &&& 255) <<< (8 &&& 31))) ||| ((f ((t + (4 * i)) + 3)) &&& 255))), iA g (b 6) 8 F, iA g (b 8) 64 rt] rfl dX11_block_77 ?_
        refine j_iincN hX i (i + 1) [(2, .int (nI (i + 1))), (3, .int (nI (t + (4 * i)))), (0, .ref h), (1, .int (nI t))] 3 dX11_block_78 rfl (nI_1 _) (by decide) rfl ?_
        refine j_pc 81 rfl ?_
        refine j_goto hX 2 dX11_block_81 (by decide) ?_
        refine j_perm [(0, .ref h), (1, .int (nI t)), (2, .int (nI (i + 1)))] [2, 3, 0] rfl ?_
        exact ih_3 (i + 1) (upd G i (((((f (t + (4 * i))) <<< (24 &&& 31)) ||| (((f ((t + (4 * i)) + 1)) &&& 255) <<< (16 &&& 31))) ||| (((f ((t + (4 * i)) + 2)) &&& 255) <<< (8 &&& 31))) ||| ((f ((t + (4 * i)) + 3)) &&& 255))) (by omega) (by omega) (W_lo hG (by omega))
  refine j_perm [(0, .ref h), (1, .int (nI t)), (2, .int (nI 0))] [1, 2, 0] rfl ?_
  exact lp_1 _ 0 w (Nat.lt_succ_self _) (by omega) (by rw [Wl, putL_nil])

set_option maxHeartbeats 1000000 in
set_option maxRecDepth 100000 in
/-- the reference: hashWords -/
theorem c_hashWords (l : Launch) (g : jG) (h : Nat) (b : Nat → Nat) (v : Nat → Int32) (n : Nat) (f : Nat → Int32) (dg : Nat → Int32) (w0 : Nat → Int32) (S0 : Nat → Int32) (fs : Nat → Int32) (rt : Nat → Int32) (hv3 : v 3 = nI n) (hn : n + 72 ≤ 1400) (hfs : ∀ j, j < 8 → fs j = s_first.getD j 0) (hrt : ∀ j, j < 64 → rt j = s_cube.getD j 0) : jC l g yX11_hashWords wsX11_hashWords ({ frames := 2, cells := 0, slots := 0, locals := 53 } : Room) [.ref h] [oB h 11 (mO b v), bA g (b 2) 1400 f, bA g (b 4) 32 dg, iA g (b 5) 64 w0, iA g (b 6) 8 S0, iA g (b 7) 8 fs, iA g (b 8) 64 rt] (fun u : (Nat → Int32) × (Nat → Int32) × Nat × (Nat → Int32) × (Nat → Int32) => none) (fun u : (Nat → Int32) × (Nat → Int32) × Nat × (Nat → Int32) × (Nat → Int32) => u.2.2.1 ≤ 1400 ∧ u.2.2.2.2 = putL dg 0 (HASH0 (slice f 0 n))) (fun u : (Nat → Int32) × (Nat → Int32) × Nat × (Nat → Int32) × (Nat → Int32) => [oB h 11 (mO b (upd v 3 (nI u.2.2.1))), bA g (b 2) 1400 u.2.2.2.1, bA g (b 4) 32 u.2.2.2.2, iA g (b 5) 64 u.2.1, iA g (b 6) 8 u.1, iA g (b 7) 8 fs, iA g (b 8) 64 rt]) := by
  refine jC.of (cc := cX11_hashWords) (own := RX11) (maxL := 4) (ret := none) (by decide +kernel) rfl rfl (Nat.le_of_ble_eq_true rfl) (fun u hu => rfl) ?_
  intro p e s m below meth c A Q hX hret
  have in11 : ∀ w ∈ wsX110, w ∈ wsX11_hashWords := (fun w h => List.mem_cons_of_mem _ (List.mem_append_right _ h))
  refine j_w [oB h 11 (mO b (upd v 3 (nI n))), bA g (b 2) 1400 f, bA g (b 4) 32 dg, iA g (b 5) 64 w0, iA g (b 6) 8 S0, iA g (b 7) 8 fs, iA g (b 8) 64 rt] (by rw [updS (hv3 : (v : Nat → Int32) 3 = nI n)]) ?_
  refine j_ldc2 hX dX11_hashWords_0 (List.mem_of_getElem? (i := 1) rfl) ?_
  refine j_aload_n hX 0 dX11_hashWords_3 rfl ?_
  refine j_get hX in11 11 0 3 (v := .int (nI n)) rfl rfl (by decide) (List.mem_of_getElem? (i := 2) rfl) rfl rfl dX11_hashWords_4 ?_
  refine j_i2l hX dX11_hashWords_7 ?_
  refine j_lmul hX dX11_hashWords_8 ?_
  refine j_lstore_n hX 1 [(1, .long ((8 : Int64) * ((nI n).toInt64))), (0, .ref h)] dX11_hashWords_9 rfl (by decide) rfl ?_
  refine j_aload_n hX 1 dX11_hashWords_10 rfl ?_
  refine j_pc 11 rfl ?_
  refine j_sipush hX (128) dX11_hashWords_11 (by decide) ?_
  refine j_callV hX 1 (c_mlay l g h b (upd v 3 (nI n)) n f 128 rfl (by omega)) gX11_hashWords_X11_lay (by decide +kernel) rfl ⟨rfl, rfl⟩ ⟨Nat.le_of_ble_eq_true rfl, Nat.le_of_ble_eq_true rfl⟩ 11 0 rfl rfl [0, 1] rfl (by decide) (fun _ => rfl) rfl [] rfl (Nat.le_of_ble_eq_true rfl) ⟨Nat.le_refl _, Nat.le_refl _⟩ dX11_hashWords_14 ?_
  intro _ hu_1
  refine j_w [oB h 11 (mO b (upd v 3 (nI (n + 1)))), bA g (b 2) 1400 (upd f n (i8 128)), bA g (b 4) 32 dg, iA g (b 5) 64 w0, iA g (b 6) 8 S0, iA g (b 7) 8 fs, iA g (b 8) 64 rt] rfl ?_
  refine j_st [] rfl ?_
  have lp_2 : ∀ (n_3 : Nat) (q : Nat) (F : Nat → Int32), (z0 n - q < n_3) → (q ≤ z0 n) → (F = putL f n (i8 128 :: List.replicate q 0)) → J p l e ({ frames := 2, cells := 0, slots := 0, locals := 53 } : Room) s m ([.ref h] : List Value).toArray below meth c g A 4 Q 0 0 [oB h 11 (mO b (upd v 3 (nI (n + 1 + q)))), bA g (b 2) 1400 F, bA g (b 4) 32 dg, iA g (b 5) 64 w0, iA g (b 6) 8 S0, iA g (b 7) 8 fs, iA g (b 8) 64 rt] [(0, .ref h), (1, .long ((8 : Int64) * (nI n).toInt64))] 17 [] := by
    intro n_3
    induction n_3 with
    | zero => intro q F hm; exact absurd hm (Nat.not_lt_zero _)
    | succ n_3 ih_4 =>
      intro q F hm hq0 hF
      have hz64 := z0_lt n
      refine j_aload_n hX 0 dX11_hashWords_17 rfl ?_
      refine j_get hX in11 11 0 3 (v := .int (nI (n + 1 + q))) rfl rfl (by decide) (List.mem_of_getElem? (i := 2) rfl) rfl rfl dX11_hashWords_18 ?_
      refine j_bipush hX (64) dX11_hashWords_21 (by decide) ?_
      refine j_iremN hX (n + 1 + q) 64 (by omega) (by omega) (by omega) dX11_hashWords_23 ?_
      refine j_bipush hX (56) dX11_hashWords_24 (by decide) ?_
      refine j_icmp_eqN hX ((n + 1 + q) % 64) 56 37 dX11_hashWords_26 (by decide) (by omega) (by omega) (fun b_26 => ?_) (fun b_26 => ?_)
      · skip
        refine j_pc 37 rfl ?_
        refine j_aload_n hX 0 dX11_hashWords_37 rfl ?_
        refine j_lload_n hX 1 dX11_hashWords_38 rfl ?_
        refine j_bipush hX (8) dX11_hashWords_39 (by decide) ?_
        refine j_callV hX 2 (c_mlayNumber l g h b (upd v 3 (nI (n + 1 + q))) (n + 1 + q) F ((8 : Int64) * (nI n).toInt64) 8 rfl (by omega)) gX11_hashWords_X11_layNumber (by decide +kernel) rfl ⟨rfl, rfl⟩ ⟨Nat.le_of_ble_eq_true rfl, Nat.le_of_ble_eq_true rfl⟩ 11 0 rfl rfl [0, 1] rfl (by decide) (fun _ => rfl) rfl [] rfl (Nat.le_of_ble_eq_true rfl) ⟨Nat.le_refl _, Nat.le_refl _⟩ dX11_hashWords_41 ?_
        intro F3 hF3
        try dsimp only at hF3
        refine j_w [oB h 11 (mO b (upd v 3 (nI ((n + 1 + q) + 8)))), bA g (b 2) 1400 F3, bA g (b 4) 32 dg, iA g (b 5) 64 w0, iA g (b 6) 8 S0, iA g (b 7) 8 fs, iA g (b 8) 64 rt] rfl ?_
        refine j_st [] rfl ?_
        have hq : q = z0 n := by unfold z0 at *; omega
        have hT := tail0_eq2 hF hq hF3
        have hm := pad0_mod n
        have htl := tail0_length n
        obtain ⟨nl, hnl⟩ : ∃ z, z = n + 1 + q + 8 := ⟨_, rfl⟩
        refine j_w [oB h 11 (mO b (upd v 3 (nI nl))), bA g (b 2) 1400 F3, bA g (b 4) 32 dg, iA g (b 5) 64 w0, iA g (b 6) 8 S0, iA g (b 7) 8 fs, iA g (b 8) 64 rt] (by rw [hnl]) ?_
        refine j_iconst hX (0) dX11_hashWords_44 (by decide) ?_
        refine j_st [.int (nI 0)] rfl ?_
        refine j_istore_n hX 3 [(3, .int (nI 0)), (0, .ref h), (1, .long ((8 : Int64) * (nI n).toInt64))] dX11_hashWords_45 rfl (by decide) rfl ?_
        have lp_5 : ∀ (n_6 : Nat) (i : Nat) (S : Nat → Int32), (8 - i < n_6) → (i ≤ 8) → (∀ j, j < i → S j = s_first.getD j 0) → J p l e ({ frames := 2, cells := 0, slots := 0, locals := 53 } : Room) s m ([.ref h] : List Value).toArray below meth c g A 4 Q 0 0 [oB h 11 (mO b (upd v 3 (nI nl))), bA g (b 2) 1400 F3, bA g (b 4) 32 dg, iA g (b 5) 64 w0, iA g (b 6) 8 S, iA g (b 7) 8 fs, iA g (b 8) 64 rt] [(0, .ref h), (1, .long ((8 : Int64) * (nI n).toInt64)), (3, .int (nI i))] 46 [] := by
          intro n_6
          induction n_6 with
          | zero => intro i S hm; exact absurd hm (Nat.not_lt_zero _)
          | succ n_6 ih_7 =>
            intro i S hm hi hS
            refine j_iload_n hX 2 dX11_hashWords_46 rfl ?_
            refine j_bipush hX (8) dX11_hashWords_47 (by decide) ?_
            refine j_pc 49 rfl ?_
            refine j_icmp_geN hX i 8 70 dX11_hashWords_49 (by decide) (by omega) (by omega) (fun b_49 => ?_) (fun b_49 => ?_)
            · skip
              refine j_iconst hX (0) dX11_hashWords_70 (by decide) ?_
              refine j_st [.int (nI 0)] rfl ?_
              refine j_istore_n hX 3 [(3, .int (nI 0)), (0, .ref h), (1, .long ((8 : Int64) * (nI n).toInt64))] dX11_hashWords_71 rfl (by decide) rfl ?_
              have lp_8 : ∀ (n_9 : Nat) (t : Nat) (k : Nat) (S : Nat → Int32) (Wd : Nat → Int32), (nl - t < n_9) → (t = 64 * k) → (t ≤ nl) → (st8 S = hs0 F3 k) → J p l e ({ frames := 2, cells := 0, slots := 0, locals := 53 } : Room) s m ([.ref h] : List Value).toArray below meth c g A 4 Q 0 0 [oB h 11 (mO b (upd v 3 (nI nl))), bA g (b 2) 1400 F3, bA g (b 4) 32 dg, iA g (b 5) 64 Wd, iA g (b 6) 8 S, iA g (b 7) 8 fs, iA g (b 8) 64 rt] [(0, .ref h), (1, .long ((8 : Int64) * (nI n).toInt64)), (3, .int (nI t))] 72 [] := by
                intro n_9
                induction n_9 with
                | zero => intro t k S Wd hm; exact absurd hm (Nat.not_lt_zero _)
                | succ n_9 ih_10 =>
                  intro t k S Wd hm ht htl2 hS
                  refine j_iload_n hX 2 dX11_hashWords_72 rfl ?_
                  refine j_aload_n hX 0 dX11_hashWords_73 rfl ?_
                  refine j_get hX in11 11 0 3 (v := .int (nI nl)) rfl rfl (by decide) (List.mem_of_getElem? (i := 2) rfl) rfl rfl dX11_hashWords_74 ?_
                  refine j_icmp_geN hX t nl 91 dX11_hashWords_77 (by decide) (by omega) (by omega) (fun b_77 => ?_) (fun b_77 => ?_)
                  · skip
                    refine j_iconst hX (0) dX11_hashWords_91 (by decide) ?_
                    refine j_pc 92 rfl ?_
                    refine j_st [.int (nI 0)] rfl ?_
                    refine j_istore_n hX 3 [(3, .int (nI 0)), (0, .ref h), (1, .long ((8 : Int64) * (nI n).toInt64))] dX11_hashWords_92 rfl (by decide) rfl ?_
                    have lp_11 : ∀ (n_12 : Nat) (k2 : Nat) (FO : Nat → Int32), (32 - k2 < n_12) → (k2 ≤ 32) → (FO = putL dg 0 ((D0l S 8).take k2)) → J p l e ({ frames := 2, cells := 0, slots := 0, locals := 53 } : Room) s m ([.ref h] : List Value).toArray below meth c g A 4 Q 0 0 [oB h 11 (mO b (upd v 3 (nI nl))), bA g (b 2) 1400 F3, bA g (b 4) 32 FO, iA g (b 5) 64 Wd, iA g (b 6) 8 S, iA g (b 7) 8 fs, iA g (b 8) 64 rt] [(0, .ref h), (1, .long ((8 : Int64) * (nI n).toInt64)), (3, .int (nI k2))] 93 [] := by
                      intro n_12
                      induction n_12 with
                      | zero => intro k2 FO hm; exact absurd hm (Nat.not_lt_zero _)
                      | succ n_12 ih_13 =>
                        intro k2 FO hm hk hO
                        refine j_iload_n hX 2 dX11_hashWords_93 rfl ?_
                        refine j_bipush hX (32) dX11_hashWords_94 (by decide) ?_
                        refine j_icmp_geN hX k2 32 130 dX11_hashWords_96 (by decide) (by omega) (by omega) (fun b_96 => ?_) (fun b_96 => ?_)
                        · skip
                          have h8 : k2 = 32 := by omega
                          subst h8
                          have hk64 : t = nl := by omega
                          rw [hT] at hS
                          have hH := HASH0_of hS (by omega)
                          rw [List.take_of_length_le (by rw [D0l_length]; omega)] at hO
                          exact hret (S, Wd, nl, F3, FO) (by dsimp only; exact ⟨by omega, by rw [hO, hH]⟩) 130 _ .return_ dX11_hashWords_130 rfl
                        · skip
                          refine j_aload_n hX 0 dX11_hashWords_99 rfl ?_
                          refine j_get hX in11 11 0 4 (v := .ref (b 4)) rfl rfl (by decide) (List.mem_of_getElem? (i := 5) rfl) rfl rfl dX11_hashWords_100 ?_
                          refine j_iload_n hX 2 dX11_hashWords_103 rfl ?_
                          refine j_pc 104 rfl ?_
                          refine j_aload_n hX 0 dX11_hashWords_104 rfl ?_
                          refine j_get hX in11 11 0 6 (v := .ref (b 6)) rfl rfl (by decide) (List.mem_of_getElem? (i := 3) rfl) rfl rfl dX11_hashWords_105 ?_
                          refine j_iload_n hX 2 dX11_hashWords_108 rfl ?_
                          refine j_iconst hX (4) dX11_hashWords_109 (by decide) ?_
                          refine j_idivN hX k2 4 (by omega) (by omega) (by omega) dX11_hashWords_110 ?_
                          refine j_ialdN hX 4 (k2 / 4) rfl (by omega) (by omega) dX11_hashWords_111 ?_
                          refine j_bipush hX (24) dX11_hashWords_112 (by decide) ?_
                          refine j_bipush hX (8) dX11_hashWords_114 (by decide) ?_
                          refine j_pc 116 rfl ?_
                          refine j_iload_n hX 2 dX11_hashWords_116 rfl ?_
                          refine j_iconst hX (4) dX11_hashWords_117 (by decide) ?_
                          refine j_iremN hX k2 4 (by omega) (by omega) (by omega) dX11_hashWords_118 ?_
                          refine j_imulN hX 8 (k2 % 4) dX11_hashWords_119 ?_
                          refine j_isubN hX 24 (8 * (k2 % 4)) (by omega) dX11_hashWords_120 ?_
                          refine j_ishr hX dX11_hashWords_121 ?_
                          refine j_i2b hX dX11_hashWords_122 ?_
                          refine j_bast8 hX 2 k2 rfl (by omega) (by omega) [oB h 11 (mO b (upd v 3 (nI nl))), bA g (b 2) 1400 F3, bA g (b 4) 32 (upd FO k2 (i8 ((S (k2 / 4)) >>> ((nI (24 - (8 * (k2 % 4)))) &&& 31)))), iA g (b 5) 64 Wd, iA g (b 6) 8 S, iA g (b 7) 8 fs, iA g (b 8) 64 rt] rfl dX11_hashWords_123 ?_
                          refine j_pc 124 rfl ?_
                          refine j_iincN hX k2 (k2 + 1) [(3, .int (nI (k2 + 1))), (0, .ref h), (1, .long ((8 : Int64) * (nI n).toInt64))] 2 dX11_hashWords_124 rfl (nI_1 _) (by decide) rfl ?_
                          refine j_goto hX 93 dX11_hashWords_127 (by decide) ?_
                          refine j_perm [(0, .ref h), (1, .long ((8 : Int64) * (nI n).toInt64)), (3, .int (nI (k2 + 1)))] [1, 2, 0] rfl ?_
                          exact ih_13 (k2 + 1) (upd FO k2 (i8 ((S (k2 / 4)) >>> ((nI (24 - (8 * (k2 % 4)))) &&& 31)))) (by omega) (by omega) (take_put hO (by rw [D0l_length]; omega) (D0l_getD S 8 k2 (by omega)).symm)
                    refine j_perm [(0, .ref h), (1, .long ((8 : Int64) * (nI n).toInt64)), (3, .int (nI 0))] [1, 2, 0] rfl ?_
                    exact lp_11 _ 0 dg (Nat.lt_succ_self _) (by omega) (by rw [List.take_zero, putL_nil])
                  · skip
                    refine j_aload_n hX 0 dX11_hashWords_80 rfl ?_
                    refine j_iload_n hX 2 dX11_hashWords_81 rfl ?_
                    refine j_callV hX 1 (c_block l g h b (upd v 3 (nI nl)) F3 Wd S rt t (by omega) hrt) gX11_hashWords_X11_block (by decide +kernel) rfl ⟨rfl, rfl⟩ ⟨Nat.le_of_ble_eq_true rfl, Nat.le_of_ble_eq_true rfl⟩ 11 0 rfl rfl [0, 1, 3, 4, 6] rfl (by decide) (fun _ => rfl) rfl [] rfl (Nat.le_of_ble_eq_true rfl) ⟨Nat.le_refl _, Nat.le_refl _⟩ dX11_hashWords_82 ?_
                    rintro ⟨W2, S2⟩ hS2
                    try dsimp only at hS2
                    refine j_w [oB h 11 (mO b (upd v 3 (nI nl))), bA g (b 2) 1400 F3, bA g (b 4) 32 dg, iA g (b 5) 64 W2, iA g (b 6) 8 S2, iA g (b 7) 8 fs, iA g (b 8) 64 rt] rfl ?_
                    refine j_st [] rfl ?_
                    refine j_iincN hX t (t + 64) [(3, .int (nI (t + 64))), (0, .ref h), (1, .long ((8 : Int64) * (nI n).toInt64))] 2 dX11_hashWords_85 rfl (nI_add _ _) (by decide) rfl ?_
                    refine j_goto hX 72 dX11_hashWords_88 (by decide) ?_
                    refine j_perm [(0, .ref h), (1, .long ((8 : Int64) * (nI n).toInt64)), (3, .int (nI (t + 64)))] [1, 2, 0] rfl ?_
                    exact ih_10 (t + 64) (k + 1) S2 W2 (by omega) (by omega) (by omega) (blk_ofM hS ht hS2)
              refine j_perm [(0, .ref h), (1, .long ((8 : Int64) * (nI n).toInt64)), (3, .int (nI 0))] [1, 2, 0] rfl ?_
              exact lp_8 _ 0 0 S w0 (Nat.lt_succ_self _) (by omega) (by omega) (by show st8 S = st8 (lF s_first); unfold st8; rw [hS 0 (by omega), hS 1 (by omega), hS 2 (by omega), hS 3 (by omega), hS 4 (by omega), hS 5 (by omega), hS 6 (by omega), hS 7 (by omega)]; rfl)
            · skip
              refine j_aload_n hX 0 dX11_hashWords_52 rfl ?_
              refine j_pc 53 rfl ?_
              refine j_get hX in11 11 0 6 (v := .ref (b 6)) rfl rfl (by decide) (List.mem_of_getElem? (i := 3) rfl) rfl rfl dX11_hashWords_53 ?_
              refine j_iload_n hX 2 dX11_hashWords_56 rfl ?_
              refine j_aload_n hX 0 dX11_hashWords_57 rfl ?_
              refine j_get hX in11 11 0 7 (v := .ref (b 7)) rfl rfl (by decide) (List.mem_of_getElem? (i := 4) rfl) rfl rfl dX11_hashWords_58 ?_
              refine j_iload_n hX 2 dX11_hashWords_61 rfl ?_
              refine j_ialdN hX 5 i rfl (by omega) (by omega) dX11_hashWords_62 ?_
              refine j_iastN hX 4 i rfl (by omega) (by omega) [oB h 11 (mO b (upd v 3 (nI nl))), bA g (b 2) 1400 F3, bA g (b 4) 32 dg, iA g (b 5) 64 w0, iA g (b 6) 8 (upd S i (fs i)), iA g (b 7) 8 fs, iA g (b 8) 64 rt] rfl dX11_hashWords_63 ?_
              refine j_iincN hX i (i + 1) [(3, .int (nI (i + 1))), (0, .ref h), (1, .long ((8 : Int64) * (nI n).toInt64))] 2 dX11_hashWords_64 rfl (nI_1 _) (by decide) rfl ?_
              refine j_pc 67 rfl ?_
              refine j_goto hX 46 dX11_hashWords_67 (by decide) ?_
              refine j_perm [(0, .ref h), (1, .long ((8 : Int64) * (nI n).toInt64)), (3, .int (nI (i + 1)))] [1, 2, 0] rfl ?_
              exact ih_7 (i + 1) (upd S i (fs i)) (by omega) (by omega) (fun j hj => by unfold upd; split; (rename_i hji; rw [hji]; exact hfs i (by omega)); (rename_i hji; exact hS j (by omega)))
        refine j_perm [(0, .ref h), (1, .long ((8 : Int64) * (nI n).toInt64)), (3, .int (nI 0))] [1, 2, 0] rfl ?_
        exact lp_5 _ 0 S0 (Nat.lt_succ_self _) (by omega) (fun j hj => absurd hj (Nat.not_lt_zero j))
      · skip
        refine j_aload_n hX 0 dX11_hashWords_29 rfl ?_
        refine j_iconst hX (0) dX11_hashWords_30 (by decide) ?_
        refine j_callV hX 1 (c_mlay l g h b (upd v 3 (nI (n + 1 + q))) (n + 1 + q) F 0 rfl (by omega)) gX11_hashWords_X11_lay (by decide +kernel) rfl ⟨rfl, rfl⟩ ⟨Nat.le_of_ble_eq_true rfl, Nat.le_of_ble_eq_true rfl⟩ 11 0 rfl rfl [0, 1] rfl (by decide) (fun _ => rfl) rfl [] rfl (Nat.le_of_ble_eq_true rfl) ⟨Nat.le_refl _, Nat.le_refl _⟩ dX11_hashWords_31 ?_
        intro _ hu_14
        refine j_w [oB h 11 (mO b (upd v 3 (nI ((n + 1 + q) + 1)))), bA g (b 2) 1400 (upd F (n + 1 + q) (i8 0)), bA g (b 4) 32 dg, iA g (b 5) 64 w0, iA g (b 6) 8 S0, iA g (b 7) 8 fs, iA g (b 8) 64 rt] rfl ?_
        refine j_st [] rfl ?_
        refine j_goto hX 17 dX11_hashWords_34 (by decide) ?_
        exact ih_4 (q + 1) (upd F (n + 1 + q) (i8 0)) (by have hq1 : q ≠ z0 n := (fun e => b_26 (by rw [e]; unfold z0; omega)); omega) (by have hq1 : q ≠ z0 n := (fun e => b_26 (by rw [e]; unfold z0; omega)); omega) (zer_put hF)
  refine j_perm [(0, .ref h), (1, .long ((8 : Int64) * ((nI n).toInt64)))] [1, 0] rfl ?_
  exact lp_2 _ 0 (upd f n (i8 128)) (Nat.lt_succ_self _) (by omega) (by rw [← putL_nil (upd f n (i8 128)) (n + 1), putL_cons]; rfl)

