/-! the reference's trees -/
def bfr (h : Nat) : Nat → Nat
  | 0 => 0
  | z + 1 => bfr h z + 2 ^ (h - z)
theorem bfr_eq (h : Nat) : ∀ z, z ≤ h → bfr h z + 2 ^ (h - z) * 2 = 2 ^ h * 2
  | 0, _ => by rw [bfr, Nat.zero_add]; rfl
  | z + 1, hz => by
    have h1 := bfr_eq h z (by omega)
    have h2 := pow_half (h := h) (z := z) hz
    rw [bfr]
    omega
theorem bfr_cap {h z i : Nat} (hz : z ≤ h) (hi : i < 2 ^ (h - z)) : bfr h z + i + 1 + 1 ≤ 2 ^ h * 2 := by
  have := bfr_eq h z hz
  have := Nat.two_pow_pos (h - z)
  omega
theorem bfr_lt {h : Nat} {z1 i : Nat} (hi : i < 2 ^ (h - z1)) : ∀ z, z1 < z → bfr h z1 + i < bfr h z
  | 0, hz => absurd hz (Nat.not_lt_zero _)
  | z + 1, hz => by
    rw [bfr]
    by_cases e : z1 = z
    · subst e; omega
    · have := bfr_lt hi z (by omega)
      have := Nat.two_pow_pos (h - z)
      omega
def nOK (N : Nat → Int32) (h n : Nat) (X : Nat → Nat → List Int32) (zt it : Nat) : Prop := ∀ z i, (z < zt ∧ i < 2 ^ (h - z)) ∨ (z = zt ∧ i < it) → slice N (16 * (bfr h z + i)) n = X z i
theorem node_keep {f : Nat → Int32} {L : List Int32} {q r n : Nat} (hL : L.length = n) (hn : n ≤ 16) (h : r ≠ q) : slice (putL f (16 * q) L) (16 * r) n = slice f (16 * r) n := by
  apply slice_congr
  intro j hj
  rw [putL_out (by omega)]
theorem nOK_put {N N2 : Nat → Int32} {h n : Nat} {X : Nat → Nat → List Int32} {z i t : Nat} (hN : nOK N h n X z i) (hn : n ≤ 16) (hl : (X z i).length = n) (ht : t = 16 * (bfr h z + i)) (e : N2 = putL N t (X z i)) : nOK N2 h n X z (i + 1) := by
  intro z1 i1 h1
  subst ht
  by_cases c : z1 = z ∧ i1 = i
  · obtain ⟨rfl, rfl⟩ := c
    rw [e, slice_put hl.symm]
  · have hne : bfr h z1 + i1 ≠ bfr h z + i := by
      rcases h1 with h1 | h1
      · have := bfr_lt h1.2 z h1.1; omega
      · obtain ⟨rfl, h2⟩ := h1; omega
    rw [e, node_keep hl hn hne]
    exact hN z1 i1 (by omega)
theorem nOK_next {N : Nat → Int32} {h n : Nat} {X : Nat → Nat → List Int32} {z i : Nat} (hN : nOK N h n X z i) (hi : 2 ^ (h - z) ≤ i) : nOK N h n X (z + 1) 0 := by
  intro z1 i1 h1
  apply hN z1 i1
  rcases h1 with h1 | h1
  · by_cases e : z1 = z
    · subst e; exact Or.inr ⟨rfl, by omega⟩
    · exact Or.inl ⟨by omega, h1.2⟩
  · omega
theorem nOK_get {N : Nat → Int32} {h n : Nat} {X : Nat → Nat → List Int32} {z i zt it : Nat} (hN : nOK N h n X zt it) (hz : z < zt) (hi : i < 2 ^ (h - z)) : slice N (16 * (bfr h z + i)) n = X z i := hN z i (Or.inl ⟨hz, hi⟩)
theorem nOK_0 {N : Nat → Int32} {h n : Nat} {X : Nat → Nat → List Int32} : nOK N h n X 0 0 := fun z i h1 => by omega
theorem pow4 {k : Nat} (hk : k ≤ 2) : 2 ^ k ≤ 4 := Nat.pow_le_pow_right (n := 2) (by decide) hk
theorem wanted_eq (nn ht lys fa mk : Nat) : nn * (1 + mk * (fa + 1) + lys * (ln nn + ht)) = sgS nn ht lys fa mk := by
  unfold sgS
  rw [Nat.mul_add, Nat.mul_add, Nat.mul_one, Nat.mul_comm nn (mk * (fa + 1)), Nat.mul_comm nn (lys * (ln nn + ht))]
theorem ln_4 {n : Nat} (h : n = 4 ∨ n = 8 ∨ n = 12 ∨ n = 16) : ln n = if n < 12 then 2 * n + 2 else 2 * n + 3 := by
  rcases h with rfl | rfl | rfl | rfl <;> decide
theorem few_node {fm n : Nat} {sd : Nat → Int32} {ly tr kd u h z q i : Nat} {lf : Nat → List Int32} (hz : 1 ≤ z) (hwd : 2 ^ (h - (z - 1)) = 2 * 2 ^ (h - z)) : NG fm n sd ly tr kd u lf z (q * 2 ^ (h - z) + i) = TT fm n sd ly tr kd u z (q * 2 ^ (h - z) + i) (NG fm n sd ly tr kd u lf (z - 1) (q * 2 ^ (h - (z - 1)) + 2 * i) ++ NG fm n sd ly tr kd u lf (z - 1) (q * 2 ^ (h - (z - 1)) + (2 * i + 1))) := by
  obtain ⟨y, rfl⟩ : ∃ y, z = y + 1 := ⟨z - 1, by omega⟩
  rw [show y + 1 - 1 = y by omega] at *
  rw [NG, hwd, show 2 * (q * 2 ^ (h - (y + 1)) + i) = q * (2 * 2 ^ (h - (y + 1))) + 2 * i by rw [Nat.mul_add, Nat.mul_left_comm], Nat.add_assoc]

theorem dX11_fewAt_0 : decode cX11_fewAt 0 = .ok (.iconst 0, 1) := by decide +kernel
theorem dX11_fewAt_1 : decode cX11_fewAt 1 = .ok (.istore_n 3, 1) := by decide +kernel
theorem dX11_fewAt_2 : decode cX11_fewAt 2 = .ok (.iconst 0, 1) := by decide +kernel
theorem dX11_fewAt_3 : decode cX11_fewAt 3 = .ok (.istore 4, 2) := by decide +kernel
theorem dX11_fewAt_5 : decode cX11_fewAt 5 = .ok (.iload 4, 2) := by decide +kernel
theorem dX11_fewAt_7 : decode cX11_fewAt 7 = .ok (.iload_n 1, 1) := by decide +kernel
theorem dX11_fewAt_8 : decode cX11_fewAt 8 = .ok (.if_icmp .ge 21, 3) := by decide +kernel
theorem dX11_fewAt_11 : decode cX11_fewAt 11 = .ok (.iload_n 3, 1) := by decide +kernel
theorem dX11_fewAt_12 : decode cX11_fewAt 12 = .ok (.iconst 1, 1) := by decide +kernel
theorem dX11_fewAt_13 : decode cX11_fewAt 13 = .ok (.aload_n 0, 1) := by decide +kernel
theorem dX11_fewAt_14 : decode cX11_fewAt 14 = .ok (.getfield 175, 3) := by decide +kernel
theorem dX11_fewAt_17 : decode cX11_fewAt 17 = .ok (.iload 4, 2) := by decide +kernel
theorem dX11_fewAt_19 : decode cX11_fewAt 19 = .ok (.isub, 1) := by decide +kernel
theorem dX11_fewAt_20 : decode cX11_fewAt 20 = .ok (.ishl, 1) := by decide +kernel
theorem dX11_fewAt_21 : decode cX11_fewAt 21 = .ok (.iadd, 1) := by decide +kernel
theorem dX11_fewAt_22 : decode cX11_fewAt 22 = .ok (.istore_n 3, 1) := by decide +kernel
theorem dX11_fewAt_23 : decode cX11_fewAt 23 = .ok (.iinc 4 1, 3) := by decide +kernel
theorem dX11_fewAt_26 : decode cX11_fewAt 26 = .ok (.goto (-21), 3) := by decide +kernel
theorem dX11_fewAt_29 : decode cX11_fewAt 29 = .ok (.bipush 16, 2) := by decide +kernel
theorem dX11_fewAt_31 : decode cX11_fewAt 31 = .ok (.iload_n 3, 1) := by decide +kernel
theorem dX11_fewAt_32 : decode cX11_fewAt 32 = .ok (.iload_n 2, 1) := by decide +kernel
theorem dX11_fewAt_33 : decode cX11_fewAt 33 = .ok (.iadd, 1) := by decide +kernel
theorem dX11_fewAt_34 : decode cX11_fewAt 34 = .ok (.imul, 1) := by decide +kernel
theorem dX11_fewAt_35 : decode cX11_fewAt 35 = .ok (.ireturn, 1) := by decide +kernel
set_option maxRecDepth 20000 in
theorem ggX11_grow_X11_nodeAt : GoodIn wsX11_grow wsX11_nodeAt := goodIn_r _ [8, 1, 91, 92, 93, 94, 95, 96, 97, 98, 99, 100, 101, 102, 103, 104, 105, 106, 107, 108, 109, 110, 111, 112, 113, 114, 115, 116, 117, 118, 119, 120, 121, 122, 123, 124, 125, 126, 127, 128, 129, 130, 131, 132, 133] rfl (by decide +kernel)
set_option maxRecDepth 20000 in
theorem gX11_grow_X11_nodeAt : GoodIn wsX11_grow (wsV RX11 282 RX11 yX11_nodeAt wsX11_nodeAt) := goodIn_app (goodIn_of _ (by decide +kernel)) ggX11_grow_X11_nodeAt
set_option maxRecDepth 20000 in
theorem ggX11_grow_X11_leafOf : GoodIn wsX11_grow wsX11_leafOf := goodIn_r _ [12, 13, 14, 3, 15, 16, 17, 7, 18, 19, 20, 21, 22, 23, 24, 25, 26, 27, 28, 29, 30, 31, 32, 33, 34, 35, 36, 37, 38, 39, 40, 41, 42, 43, 44, 45, 46, 47, 48, 49, 50, 51, 52, 53, 54, 55, 56, 57, 58, 59, 60, 61, 62, 63, 64, 65, 66, 67, 68, 69, 70, 71, 72, 73, 74, 75, 76, 77, 78, 79, 80, 81, 82, 83, 84, 85, 86, 87, 88, 89, 90, 91, 92, 93, 94, 95, 96, 97, 98, 99, 100, 101, 102, 103, 104, 105, 106, 107, 108, 109, 110, 111, 112, 113, 114, 115, 116, 117, 118, 119, 120, 121, 122, 123, 124, 125, 126, 127, 128, 129, 130, 131, 132, 133] rfl (by decide +kernel)
set_option maxRecDepth 20000 in
theorem gX11_grow_X11_leafOf : GoodIn wsX11_grow (wsV RX11 285 RX11 yX11_leafOf wsX11_leafOf) := goodIn_app (goodIn_of _ (by decide +kernel)) ggX11_grow_X11_leafOf
set_option maxRecDepth 20000 in
theorem ggX11_grow_X11_begin : GoodIn wsX11_grow wsX11_begin := goodIn_r _ [22, 23, 24, 25, 26, 27, 28, 29, 7, 30, 3, 31, 32, 33, 34, 35, 36, 37, 38, 39, 40, 91, 92, 93, 94, 95, 96, 97, 98, 99, 100, 101, 102, 103, 104, 105, 106, 107, 108, 109, 110, 111, 112, 113, 114, 115, 116, 117, 118, 119, 120, 121, 122, 123, 124, 125, 126, 127, 128, 129, 130, 131, 132, 133] rfl (by decide +kernel)
set_option maxRecDepth 20000 in
theorem gX11_grow_X11_begin : GoodIn wsX11_grow (wsV RX11 262 RX11 yX11_begin wsX11_begin) := goodIn_app (goodIn_of _ (by decide +kernel)) ggX11_grow_X11_begin
set_option maxRecDepth 20000 in
theorem ggX11_grow_X11_layRow : GoodIn wsX11_grow wsX11_layRow := goodIn_r _ [90, 32, 33, 34, 7, 35, 36, 23, 91, 92, 93, 94, 95, 96, 97, 98, 99, 100, 101, 102, 103, 104, 105, 106, 107, 108, 109, 110, 111, 112, 113, 114, 115, 116, 117, 118, 119, 120, 121, 122, 123, 124, 125, 126, 127, 128, 129, 130, 131, 132, 133] rfl (by decide +kernel)
set_option maxRecDepth 20000 in
theorem gX11_grow_X11_layRow : GoodIn wsX11_grow (wsV RX11 270 RX11 yX11_layRow wsX11_layRow) := goodIn_app (goodIn_of _ (by decide +kernel)) ggX11_grow_X11_layRow
set_option maxRecDepth 20000 in
theorem ggX11_grow_X11_end : GoodIn wsX11_grow wsX11_end := goodIn_r _ [44, 24, 3, 45, 46, 47, 48, 7, 49, 50, 51, 52, 53, 54, 23, 55, 56, 32, 33, 34, 35, 36, 37, 38, 39, 40, 57, 58, 59, 60, 61, 62, 63, 64, 65, 66, 67, 68, 69, 70, 71, 72, 73, 74, 75, 76, 77, 78, 79, 80, 81, 82, 91, 92, 93, 94, 95, 96, 97, 98, 99, 100, 101, 102, 103, 104, 105, 106, 107, 108, 109, 110, 111, 112, 113, 114, 115, 116, 117, 118, 119, 120, 121, 122, 123, 124, 125, 126, 127, 128, 129, 130, 131, 132, 133] rfl (by decide +kernel)
set_option maxRecDepth 20000 in
theorem gX11_grow_X11_end : GoodIn wsX11_grow (wsV RX11 266 RX11 yX11_end wsX11_end) := goodIn_app (goodIn_of _ (by decide +kernel)) ggX11_grow_X11_end
theorem dX11_grow_0 : decode cX11_grow 0 = .ok (.iconst 0, 1) := by decide +kernel
theorem dX11_grow_1 : decode cX11_grow 1 = .ok (.istore_n 1, 1) := by decide +kernel
theorem dX11_grow_2 : decode cX11_grow 2 = .ok (.iload_n 1, 1) := by decide +kernel
theorem dX11_grow_3 : decode cX11_grow 3 = .ok (.iconst 1, 1) := by decide +kernel
theorem dX11_grow_4 : decode cX11_grow 4 = .ok (.aload_n 0, 1) := by decide +kernel
theorem dX11_grow_5 : decode cX11_grow 5 = .ok (.getfield 169, 3) := by decide +kernel
theorem dX11_grow_8 : decode cX11_grow 8 = .ok (.ishl, 1) := by decide +kernel
theorem dX11_grow_9 : decode cX11_grow 9 = .ok (.if_icmp .ge 24, 3) := by decide +kernel
theorem dX11_grow_12 : decode cX11_grow 12 = .ok (.aload_n 0, 1) := by decide +kernel
theorem dX11_grow_13 : decode cX11_grow 13 = .ok (.iload_n 1, 1) := by decide +kernel
theorem dX11_grow_14 : decode cX11_grow 14 = .ok (.aload_n 0, 1) := by decide +kernel
theorem dX11_grow_15 : decode cX11_grow 15 = .ok (.getfield 129, 3) := by decide +kernel
theorem dX11_grow_18 : decode cX11_grow 18 = .ok (.aload_n 0, 1) := by decide +kernel
theorem dX11_grow_19 : decode cX11_grow 19 = .ok (.iconst 0, 1) := by decide +kernel
theorem dX11_grow_20 : decode cX11_grow 20 = .ok (.iload_n 1, 1) := by decide +kernel
theorem dX11_grow_21 : decode cX11_grow 21 = .ok (.invokevirtual 282, 3) := by decide +kernel
theorem dX11_grow_24 : decode cX11_grow 24 = .ok (.invokevirtual 285, 3) := by decide +kernel
theorem dX11_grow_27 : decode cX11_grow 27 = .ok (.iinc 1 1, 3) := by decide +kernel
theorem dX11_grow_30 : decode cX11_grow 30 = .ok (.goto (-28), 3) := by decide +kernel
theorem dX11_grow_33 : decode cX11_grow 33 = .ok (.iconst 1, 1) := by decide +kernel
theorem dX11_grow_34 : decode cX11_grow 34 = .ok (.istore_n 1, 1) := by decide +kernel
theorem dX11_grow_35 : decode cX11_grow 35 = .ok (.iload_n 1, 1) := by decide +kernel
theorem dX11_grow_36 : decode cX11_grow 36 = .ok (.aload_n 0, 1) := by decide +kernel
theorem dX11_grow_37 : decode cX11_grow 37 = .ok (.getfield 169, 3) := by decide +kernel
theorem dX11_grow_40 : decode cX11_grow 40 = .ok (.if_icmp .gt 97, 3) := by decide +kernel
theorem dX11_grow_43 : decode cX11_grow 43 = .ok (.iconst 0, 1) := by decide +kernel
theorem dX11_grow_44 : decode cX11_grow 44 = .ok (.istore_n 2, 1) := by decide +kernel
theorem dX11_grow_45 : decode cX11_grow 45 = .ok (.iload_n 2, 1) := by decide +kernel
theorem dX11_grow_46 : decode cX11_grow 46 = .ok (.iconst 1, 1) := by decide +kernel
theorem dX11_grow_47 : decode cX11_grow 47 = .ok (.aload_n 0, 1) := by decide +kernel
theorem dX11_grow_48 : decode cX11_grow 48 = .ok (.getfield 169, 3) := by decide +kernel
theorem dX11_grow_51 : decode cX11_grow 51 = .ok (.iload_n 1, 1) := by decide +kernel
theorem dX11_grow_52 : decode cX11_grow 52 = .ok (.isub, 1) := by decide +kernel
theorem dX11_grow_53 : decode cX11_grow 53 = .ok (.ishl, 1) := by decide +kernel
theorem dX11_grow_54 : decode cX11_grow 54 = .ok (.if_icmp .ge 77, 3) := by decide +kernel
theorem dX11_grow_57 : decode cX11_grow 57 = .ok (.aload_n 0, 1) := by decide +kernel
theorem dX11_grow_58 : decode cX11_grow 58 = .ok (.iconst 2, 1) := by decide +kernel
theorem dX11_grow_59 : decode cX11_grow 59 = .ok (.iconst 0, 1) := by decide +kernel
theorem dX11_grow_60 : decode cX11_grow 60 = .ok (.iload_n 1, 1) := by decide +kernel
theorem dX11_grow_61 : decode cX11_grow 61 = .ok (.iload_n 2, 1) := by decide +kernel
theorem dX11_grow_62 : decode cX11_grow 62 = .ok (.invokevirtual 262, 3) := by decide +kernel
theorem dX11_grow_65 : decode cX11_grow 65 = .ok (.aload_n 0, 1) := by decide +kernel
theorem dX11_grow_66 : decode cX11_grow 66 = .ok (.aload_n 0, 1) := by decide +kernel
theorem dX11_grow_67 : decode cX11_grow 67 = .ok (.getfield 129, 3) := by decide +kernel
theorem dX11_grow_70 : decode cX11_grow 70 = .ok (.aload_n 0, 1) := by decide +kernel
theorem dX11_grow_71 : decode cX11_grow 71 = .ok (.iload_n 1, 1) := by decide +kernel
theorem dX11_grow_72 : decode cX11_grow 72 = .ok (.iconst 1, 1) := by decide +kernel
theorem dX11_grow_73 : decode cX11_grow 73 = .ok (.isub, 1) := by decide +kernel
theorem dX11_grow_74 : decode cX11_grow 74 = .ok (.iconst 2, 1) := by decide +kernel
theorem dX11_grow_75 : decode cX11_grow 75 = .ok (.iload_n 2, 1) := by decide +kernel
theorem dX11_grow_76 : decode cX11_grow 76 = .ok (.imul, 1) := by decide +kernel
theorem dX11_grow_77 : decode cX11_grow 77 = .ok (.invokevirtual 282, 3) := by decide +kernel
theorem dX11_grow_80 : decode cX11_grow 80 = .ok (.aload_n 0, 1) := by decide +kernel
theorem dX11_grow_81 : decode cX11_grow 81 = .ok (.getfield 166, 3) := by decide +kernel
theorem dX11_grow_84 : decode cX11_grow 84 = .ok (.invokevirtual 270, 3) := by decide +kernel
theorem dX11_grow_87 : decode cX11_grow 87 = .ok (.aload_n 0, 1) := by decide +kernel
theorem dX11_grow_88 : decode cX11_grow 88 = .ok (.aload_n 0, 1) := by decide +kernel
theorem dX11_grow_89 : decode cX11_grow 89 = .ok (.getfield 129, 3) := by decide +kernel
theorem dX11_grow_92 : decode cX11_grow 92 = .ok (.aload_n 0, 1) := by decide +kernel
theorem dX11_grow_93 : decode cX11_grow 93 = .ok (.iload_n 1, 1) := by decide +kernel
theorem dX11_grow_94 : decode cX11_grow 94 = .ok (.iconst 1, 1) := by decide +kernel
theorem dX11_grow_95 : decode cX11_grow 95 = .ok (.isub, 1) := by decide +kernel
theorem dX11_grow_96 : decode cX11_grow 96 = .ok (.iconst 2, 1) := by decide +kernel
theorem dX11_grow_97 : decode cX11_grow 97 = .ok (.iload_n 2, 1) := by decide +kernel
theorem dX11_grow_98 : decode cX11_grow 98 = .ok (.imul, 1) := by decide +kernel
theorem dX11_grow_99 : decode cX11_grow 99 = .ok (.iconst 1, 1) := by decide +kernel
theorem dX11_grow_100 : decode cX11_grow 100 = .ok (.iadd, 1) := by decide +kernel
theorem dX11_grow_101 : decode cX11_grow 101 = .ok (.invokevirtual 282, 3) := by decide +kernel
theorem dX11_grow_104 : decode cX11_grow 104 = .ok (.aload_n 0, 1) := by decide +kernel
theorem dX11_grow_105 : decode cX11_grow 105 = .ok (.getfield 166, 3) := by decide +kernel
theorem dX11_grow_108 : decode cX11_grow 108 = .ok (.invokevirtual 270, 3) := by decide +kernel
theorem dX11_grow_111 : decode cX11_grow 111 = .ok (.aload_n 0, 1) := by decide +kernel
theorem dX11_grow_112 : decode cX11_grow 112 = .ok (.aload_n 0, 1) := by decide +kernel
theorem dX11_grow_113 : decode cX11_grow 113 = .ok (.getfield 129, 3) := by decide +kernel
theorem dX11_grow_116 : decode cX11_grow 116 = .ok (.aload_n 0, 1) := by decide +kernel
theorem dX11_grow_117 : decode cX11_grow 117 = .ok (.iload_n 1, 1) := by decide +kernel
theorem dX11_grow_118 : decode cX11_grow 118 = .ok (.iload_n 2, 1) := by decide +kernel
theorem dX11_grow_119 : decode cX11_grow 119 = .ok (.invokevirtual 282, 3) := by decide +kernel
theorem dX11_grow_122 : decode cX11_grow 122 = .ok (.invokevirtual 266, 3) := by decide +kernel
theorem dX11_grow_125 : decode cX11_grow 125 = .ok (.iinc 2 1, 3) := by decide +kernel
theorem dX11_grow_128 : decode cX11_grow 128 = .ok (.goto (-83), 3) := by decide +kernel
theorem dX11_grow_131 : decode cX11_grow 131 = .ok (.iinc 1 1, 3) := by decide +kernel
theorem dX11_grow_134 : decode cX11_grow 134 = .ok (.goto (-99), 3) := by decide +kernel
theorem dX11_grow_137 : decode cX11_grow 137 = .ok (.return_, 1) := by decide +kernel
set_option maxRecDepth 20000 in
theorem ggX11_growFew_X11_secret : GoodIn wsX11_growFew wsX11_secret := goodIn_r _ [9, 10, 11, 12, 8, 13, 14, 15, 16, 17, 18, 19, 20, 21, 3, 22, 23, 24, 25, 26, 27, 28, 29, 30, 31, 32, 33, 34, 35, 36, 37, 38, 39, 40, 41, 42, 43, 44, 45, 46, 47, 48, 49, 50, 51, 52, 53, 54, 55, 56, 57, 58, 59, 60, 61, 62, 63, 64, 65, 66, 67, 68, 69, 70, 71, 72, 73, 82, 83, 84, 85, 86, 87, 88, 89, 90, 91, 92, 93, 94, 95, 96, 97, 98, 99, 100, 101, 102, 103, 104, 105, 106, 107, 108, 109, 110, 111, 112, 113, 114, 115, 116, 117, 118, 119, 120, 121, 122, 123, 124] rfl (by decide +kernel)
set_option maxRecDepth 20000 in
theorem gX11_growFew_X11_secret : GoodIn wsX11_growFew (wsV RX11 274 RX11 yX11_secret wsX11_secret) := goodIn_app (goodIn_of _ (by decide +kernel)) ggX11_growFew_X11_secret
set_option maxRecDepth 20000 in
theorem ggX11_growFew_X11_begin : GoodIn wsX11_growFew wsX11_begin := goodIn_r _ [13, 14, 15, 16, 17, 18, 19, 20, 8, 21, 3, 22, 23, 24, 25, 26, 27, 28, 29, 30, 31, 82, 83, 84, 85, 86, 87, 88, 89, 90, 91, 92, 93, 94, 95, 96, 97, 98, 99, 100, 101, 102, 103, 104, 105, 106, 107, 108, 109, 110, 111, 112, 113, 114, 115, 116, 117, 118, 119, 120, 121, 122, 123, 124] rfl (by decide +kernel)
set_option maxRecDepth 20000 in
theorem gX11_growFew_X11_begin : GoodIn wsX11_growFew (wsV RX11 262 RX11 yX11_begin wsX11_begin) := goodIn_app (goodIn_of _ (by decide +kernel)) ggX11_growFew_X11_begin
set_option maxRecDepth 20000 in
theorem ggX11_growFew_X11_layRow : GoodIn wsX11_growFew wsX11_layRow := goodIn_r _ [77, 23, 24, 25, 8, 26, 27, 14, 82, 83, 84, 85, 86, 87, 88, 89, 90, 91, 92, 93, 94, 95, 96, 97, 98, 99, 100, 101, 102, 103, 104, 105, 106, 107, 108, 109, 110, 111, 112, 113, 114, 115, 116, 117, 118, 119, 120, 121, 122, 123, 124] rfl (by decide +kernel)
set_option maxRecDepth 20000 in
theorem gX11_growFew_X11_layRow : GoodIn wsX11_growFew (wsV RX11 270 RX11 yX11_layRow wsX11_layRow) := goodIn_app (goodIn_of _ (by decide +kernel)) ggX11_growFew_X11_layRow
set_option maxRecDepth 20000 in
theorem ggX11_growFew_X11_fewAt : GoodIn wsX11_growFew wsX11_fewAt := goodIn_r _ [81, 1, 82, 83, 84, 85, 86, 87, 88, 89, 90, 91, 92, 93, 94, 95, 96, 97, 98, 99, 100, 101, 102, 103, 104, 105, 106, 107, 108, 109, 110, 111, 112, 113, 114, 115, 116, 117, 118, 119, 120, 121, 122, 123, 124] rfl (by decide +kernel)
set_option maxRecDepth 20000 in
theorem gX11_growFew_X11_fewAt : GoodIn wsX11_growFew (wsV RX11 292 RX11 yX11_fewAt wsX11_fewAt) := goodIn_app (goodIn_of _ (by decide +kernel)) ggX11_growFew_X11_fewAt
set_option maxRecDepth 20000 in
theorem ggX11_growFew_X11_end : GoodIn wsX11_growFew wsX11_end := goodIn_r _ [35, 15, 3, 36, 37, 38, 39, 8, 40, 41, 42, 43, 44, 45, 14, 46, 47, 23, 24, 25, 26, 27, 28, 29, 30, 31, 48, 49, 50, 51, 52, 53, 54, 55, 56, 57, 58, 59, 60, 61, 62, 63, 64, 65, 66, 67, 68, 69, 70, 71, 72, 73, 82, 83, 84, 85, 86, 87, 88, 89, 90, 91, 92, 93, 94, 95, 96, 97, 98, 99, 100, 101, 102, 103, 104, 105, 106, 107, 108, 109, 110, 111, 112, 113, 114, 115, 116, 117, 118, 119, 120, 121, 122, 123, 124] rfl (by decide +kernel)
set_option maxRecDepth 20000 in
theorem gX11_growFew_X11_end : GoodIn wsX11_growFew (wsV RX11 266 RX11 yX11_end wsX11_end) := goodIn_app (goodIn_of _ (by decide +kernel)) ggX11_growFew_X11_end
theorem dX11_growFew_0 : decode cX11_growFew 0 = .ok (.iconst 0, 1) := by decide +kernel
theorem dX11_growFew_1 : decode cX11_growFew 1 = .ok (.istore_n 3, 1) := by decide +kernel
theorem dX11_growFew_2 : decode cX11_growFew 2 = .ok (.iload_n 3, 1) := by decide +kernel
theorem dX11_growFew_3 : decode cX11_growFew 3 = .ok (.iconst 1, 1) := by decide +kernel
theorem dX11_growFew_4 : decode cX11_growFew 4 = .ok (.aload_n 0, 1) := by decide +kernel
theorem dX11_growFew_5 : decode cX11_growFew 5 = .ok (.getfield 175, 3) := by decide +kernel
theorem dX11_growFew_8 : decode cX11_growFew 8 = .ok (.ishl, 1) := by decide +kernel
theorem dX11_growFew_9 : decode cX11_growFew 9 = .ok (.if_icmp .ge 70, 3) := by decide +kernel
theorem dX11_growFew_12 : decode cX11_growFew 12 = .ok (.iload_n 2, 1) := by decide +kernel
theorem dX11_growFew_13 : decode cX11_growFew 13 = .ok (.aload_n 0, 1) := by decide +kernel
theorem dX11_growFew_14 : decode cX11_growFew 14 = .ok (.getfield 175, 3) := by decide +kernel
theorem dX11_growFew_17 : decode cX11_growFew 17 = .ok (.ishl, 1) := by decide +kernel
theorem dX11_growFew_18 : decode cX11_growFew 18 = .ok (.iload_n 3, 1) := by decide +kernel
theorem dX11_growFew_19 : decode cX11_growFew 19 = .ok (.iadd, 1) := by decide +kernel
theorem dX11_growFew_20 : decode cX11_growFew 20 = .ok (.istore 4, 2) := by decide +kernel
theorem dX11_growFew_22 : decode cX11_growFew 22 = .ok (.aload_n 0, 1) := by decide +kernel
theorem dX11_growFew_23 : decode cX11_growFew 23 = .ok (.bipush 6, 2) := by decide +kernel
theorem dX11_growFew_25 : decode cX11_growFew 25 = .ok (.iload_n 1, 1) := by decide +kernel
theorem dX11_growFew_26 : decode cX11_growFew 26 = .ok (.iconst 0, 1) := by decide +kernel
theorem dX11_growFew_27 : decode cX11_growFew 27 = .ok (.iload 4, 2) := by decide +kernel
theorem dX11_growFew_29 : decode cX11_growFew 29 = .ok (.aload_n 0, 1) := by decide +kernel
theorem dX11_growFew_30 : decode cX11_growFew 30 = .ok (.getfield 138, 3) := by decide +kernel
theorem dX11_growFew_33 : decode cX11_growFew 33 = .ok (.iconst 0, 1) := by decide +kernel
theorem dX11_growFew_34 : decode cX11_growFew 34 = .ok (.invokevirtual 274, 3) := by decide +kernel
theorem dX11_growFew_37 : decode cX11_growFew 37 = .ok (.aload_n 0, 1) := by decide +kernel
theorem dX11_growFew_38 : decode cX11_growFew 38 = .ok (.iconst 3, 1) := by decide +kernel
theorem dX11_growFew_39 : decode cX11_growFew 39 = .ok (.iload_n 1, 1) := by decide +kernel
theorem dX11_growFew_40 : decode cX11_growFew 40 = .ok (.iconst 0, 1) := by decide +kernel
theorem dX11_growFew_41 : decode cX11_growFew 41 = .ok (.iload 4, 2) := by decide +kernel
theorem dX11_growFew_43 : decode cX11_growFew 43 = .ok (.invokevirtual 262, 3) := by decide +kernel
theorem dX11_growFew_46 : decode cX11_growFew 46 = .ok (.aload_n 0, 1) := by decide +kernel
theorem dX11_growFew_47 : decode cX11_growFew 47 = .ok (.aload_n 0, 1) := by decide +kernel
theorem dX11_growFew_48 : decode cX11_growFew 48 = .ok (.getfield 138, 3) := by decide +kernel
theorem dX11_growFew_51 : decode cX11_growFew 51 = .ok (.iconst 0, 1) := by decide +kernel
theorem dX11_growFew_52 : decode cX11_growFew 52 = .ok (.aload_n 0, 1) := by decide +kernel
theorem dX11_growFew_53 : decode cX11_growFew 53 = .ok (.getfield 166, 3) := by decide +kernel
theorem dX11_growFew_56 : decode cX11_growFew 56 = .ok (.invokevirtual 270, 3) := by decide +kernel
theorem dX11_growFew_59 : decode cX11_growFew 59 = .ok (.aload_n 0, 1) := by decide +kernel
theorem dX11_growFew_60 : decode cX11_growFew 60 = .ok (.aload_n 0, 1) := by decide +kernel
theorem dX11_growFew_61 : decode cX11_growFew 61 = .ok (.getfield 135, 3) := by decide +kernel
theorem dX11_growFew_64 : decode cX11_growFew 64 = .ok (.aload_n 0, 1) := by decide +kernel
theorem dX11_growFew_65 : decode cX11_growFew 65 = .ok (.iconst 0, 1) := by decide +kernel
theorem dX11_growFew_66 : decode cX11_growFew 66 = .ok (.iload_n 3, 1) := by decide +kernel
theorem dX11_growFew_67 : decode cX11_growFew 67 = .ok (.invokevirtual 292, 3) := by decide +kernel
theorem dX11_growFew_70 : decode cX11_growFew 70 = .ok (.invokevirtual 266, 3) := by decide +kernel
theorem dX11_growFew_73 : decode cX11_growFew 73 = .ok (.iinc 3 1, 3) := by decide +kernel
theorem dX11_growFew_76 : decode cX11_growFew 76 = .ok (.goto (-74), 3) := by decide +kernel
theorem dX11_growFew_79 : decode cX11_growFew 79 = .ok (.iconst 1, 1) := by decide +kernel
theorem dX11_growFew_80 : decode cX11_growFew 80 = .ok (.istore_n 3, 1) := by decide +kernel
theorem dX11_growFew_81 : decode cX11_growFew 81 = .ok (.iload_n 3, 1) := by decide +kernel
theorem dX11_growFew_82 : decode cX11_growFew 82 = .ok (.aload_n 0, 1) := by decide +kernel
theorem dX11_growFew_83 : decode cX11_growFew 83 = .ok (.getfield 175, 3) := by decide +kernel
theorem dX11_growFew_86 : decode cX11_growFew 86 = .ok (.if_icmp .gt 112, 3) := by decide +kernel
theorem dX11_growFew_89 : decode cX11_growFew 89 = .ok (.iconst 0, 1) := by decide +kernel
theorem dX11_growFew_90 : decode cX11_growFew 90 = .ok (.istore 4, 2) := by decide +kernel
theorem dX11_growFew_92 : decode cX11_growFew 92 = .ok (.iload 4, 2) := by decide +kernel
theorem dX11_growFew_94 : decode cX11_growFew 94 = .ok (.iconst 1, 1) := by decide +kernel
theorem dX11_growFew_95 : decode cX11_growFew 95 = .ok (.aload_n 0, 1) := by decide +kernel
theorem dX11_growFew_96 : decode cX11_growFew 96 = .ok (.getfield 175, 3) := by decide +kernel
theorem dX11_growFew_99 : decode cX11_growFew 99 = .ok (.iload_n 3, 1) := by decide +kernel
theorem dX11_growFew_100 : decode cX11_growFew 100 = .ok (.isub, 1) := by decide +kernel
theorem dX11_growFew_101 : decode cX11_growFew 101 = .ok (.ishl, 1) := by decide +kernel
theorem dX11_growFew_102 : decode cX11_growFew 102 = .ok (.if_icmp .ge 90, 3) := by decide +kernel
theorem dX11_growFew_105 : decode cX11_growFew 105 = .ok (.aload_n 0, 1) := by decide +kernel
theorem dX11_growFew_106 : decode cX11_growFew 106 = .ok (.iconst 3, 1) := by decide +kernel
theorem dX11_growFew_107 : decode cX11_growFew 107 = .ok (.iload_n 1, 1) := by decide +kernel
theorem dX11_growFew_108 : decode cX11_growFew 108 = .ok (.iload_n 3, 1) := by decide +kernel
theorem dX11_growFew_109 : decode cX11_growFew 109 = .ok (.iload_n 2, 1) := by decide +kernel
theorem dX11_growFew_110 : decode cX11_growFew 110 = .ok (.aload_n 0, 1) := by decide +kernel
theorem dX11_growFew_111 : decode cX11_growFew 111 = .ok (.getfield 175, 3) := by decide +kernel
theorem dX11_growFew_114 : decode cX11_growFew 114 = .ok (.iload_n 3, 1) := by decide +kernel
theorem dX11_growFew_115 : decode cX11_growFew 115 = .ok (.isub, 1) := by decide +kernel
theorem dX11_growFew_116 : decode cX11_growFew 116 = .ok (.ishl, 1) := by decide +kernel
theorem dX11_growFew_117 : decode cX11_growFew 117 = .ok (.iload 4, 2) := by decide +kernel
theorem dX11_growFew_119 : decode cX11_growFew 119 = .ok (.iadd, 1) := by decide +kernel
theorem dX11_growFew_120 : decode cX11_growFew 120 = .ok (.invokevirtual 262, 3) := by decide +kernel
theorem dX11_growFew_123 : decode cX11_growFew 123 = .ok (.aload_n 0, 1) := by decide +kernel
theorem dX11_growFew_124 : decode cX11_growFew 124 = .ok (.aload_n 0, 1) := by decide +kernel
theorem dX11_growFew_125 : decode cX11_growFew 125 = .ok (.getfield 135, 3) := by decide +kernel
theorem dX11_growFew_128 : decode cX11_growFew 128 = .ok (.aload_n 0, 1) := by decide +kernel
theorem dX11_growFew_129 : decode cX11_growFew 129 = .ok (.iload_n 3, 1) := by decide +kernel
theorem dX11_growFew_130 : decode cX11_growFew 130 = .ok (.iconst 1, 1) := by decide +kernel
theorem dX11_growFew_131 : decode cX11_growFew 131 = .ok (.isub, 1) := by decide +kernel
theorem dX11_growFew_132 : decode cX11_growFew 132 = .ok (.iconst 2, 1) := by decide +kernel
theorem dX11_growFew_133 : decode cX11_growFew 133 = .ok (.iload 4, 2) := by decide +kernel
theorem dX11_growFew_135 : decode cX11_growFew 135 = .ok (.imul, 1) := by decide +kernel
theorem dX11_growFew_136 : decode cX11_growFew 136 = .ok (.invokevirtual 292, 3) := by decide +kernel
theorem dX11_growFew_139 : decode cX11_growFew 139 = .ok (.aload_n 0, 1) := by decide +kernel
theorem dX11_growFew_140 : decode cX11_growFew 140 = .ok (.getfield 166, 3) := by decide +kernel
theorem dX11_growFew_143 : decode cX11_growFew 143 = .ok (.invokevirtual 270, 3) := by decide +kernel
theorem dX11_growFew_146 : decode cX11_growFew 146 = .ok (.aload_n 0, 1) := by decide +kernel
theorem dX11_growFew_147 : decode cX11_growFew 147 = .ok (.aload_n 0, 1) := by decide +kernel
theorem dX11_growFew_148 : decode cX11_growFew 148 = .ok (.getfield 135, 3) := by decide +kernel
theorem dX11_growFew_151 : decode cX11_growFew 151 = .ok (.aload_n 0, 1) := by decide +kernel
theorem dX11_growFew_152 : decode cX11_growFew 152 = .ok (.iload_n 3, 1) := by decide +kernel
theorem dX11_growFew_153 : decode cX11_growFew 153 = .ok (.iconst 1, 1) := by decide +kernel
theorem dX11_growFew_154 : decode cX11_growFew 154 = .ok (.isub, 1) := by decide +kernel
theorem dX11_growFew_155 : decode cX11_growFew 155 = .ok (.iconst 2, 1) := by decide +kernel
theorem dX11_growFew_156 : decode cX11_growFew 156 = .ok (.iload 4, 2) := by decide +kernel
theorem dX11_growFew_158 : decode cX11_growFew 158 = .ok (.imul, 1) := by decide +kernel
theorem dX11_growFew_159 : decode cX11_growFew 159 = .ok (.iconst 1, 1) := by decide +kernel
theorem dX11_growFew_160 : decode cX11_growFew 160 = .ok (.iadd, 1) := by decide +kernel
theorem dX11_growFew_161 : decode cX11_growFew 161 = .ok (.invokevirtual 292, 3) := by decide +kernel
theorem dX11_growFew_164 : decode cX11_growFew 164 = .ok (.aload_n 0, 1) := by decide +kernel
theorem dX11_growFew_165 : decode cX11_growFew 165 = .ok (.getfield 166, 3) := by decide +kernel
theorem dX11_growFew_168 : decode cX11_growFew 168 = .ok (.invokevirtual 270, 3) := by decide +kernel
theorem dX11_growFew_171 : decode cX11_growFew 171 = .ok (.aload_n 0, 1) := by decide +kernel
theorem dX11_growFew_172 : decode cX11_growFew 172 = .ok (.aload_n 0, 1) := by decide +kernel
theorem dX11_growFew_173 : decode cX11_growFew 173 = .ok (.getfield 135, 3) := by decide +kernel
theorem dX11_growFew_176 : decode cX11_growFew 176 = .ok (.aload_n 0, 1) := by decide +kernel
theorem dX11_growFew_177 : decode cX11_growFew 177 = .ok (.iload_n 3, 1) := by decide +kernel
theorem dX11_growFew_178 : decode cX11_growFew 178 = .ok (.iload 4, 2) := by decide +kernel
theorem dX11_growFew_180 : decode cX11_growFew 180 = .ok (.invokevirtual 292, 3) := by decide +kernel
theorem dX11_growFew_183 : decode cX11_growFew 183 = .ok (.invokevirtual 266, 3) := by decide +kernel
theorem dX11_growFew_186 : decode cX11_growFew 186 = .ok (.iinc 4 1, 3) := by decide +kernel
theorem dX11_growFew_189 : decode cX11_growFew 189 = .ok (.goto (-97), 3) := by decide +kernel
theorem dX11_growFew_192 : decode cX11_growFew 192 = .ok (.iinc 3 1, 3) := by decide +kernel
theorem dX11_growFew_195 : decode cX11_growFew 195 = .ok (.goto (-114), 3) := by decide +kernel
theorem dX11_growFew_198 : decode cX11_growFew 198 = .ok (.return_, 1) := by decide +kernel
theorem dX11_put_0 : decode cX11_put 0 = .ok (.iconst 0, 1) := by decide +kernel
theorem dX11_put_1 : decode cX11_put 1 = .ok (.istore_n 3, 1) := by decide +kernel
theorem dX11_put_2 : decode cX11_put 2 = .ok (.iload_n 3, 1) := by decide +kernel
theorem dX11_put_3 : decode cX11_put 3 = .ok (.aload_n 0, 1) := by decide +kernel
theorem dX11_put_4 : decode cX11_put 4 = .ok (.getfield 166, 3) := by decide +kernel
theorem dX11_put_7 : decode cX11_put 7 = .ok (.if_icmp .ge 25, 3) := by decide +kernel
theorem dX11_put_10 : decode cX11_put 10 = .ok (.aload_n 0, 1) := by decide +kernel
theorem dX11_put_11 : decode cX11_put 11 = .ok (.getfield 150, 3) := by decide +kernel
theorem dX11_put_14 : decode cX11_put 14 = .ok (.aload_n 0, 1) := by decide +kernel
theorem dX11_put_15 : decode cX11_put 15 = .ok (.getfield 298, 3) := by decide +kernel
theorem dX11_put_18 : decode cX11_put 18 = .ok (.iload_n 3, 1) := by decide +kernel
theorem dX11_put_19 : decode cX11_put 19 = .ok (.iadd, 1) := by decide +kernel
theorem dX11_put_20 : decode cX11_put 20 = .ok (.aload_n 1, 1) := by decide +kernel
theorem dX11_put_21 : decode cX11_put 21 = .ok (.iload_n 2, 1) := by decide +kernel
theorem dX11_put_22 : decode cX11_put 22 = .ok (.iload_n 3, 1) := by decide +kernel
theorem dX11_put_23 : decode cX11_put 23 = .ok (.iadd, 1) := by decide +kernel
theorem dX11_put_24 : decode cX11_put 24 = .ok (.baload, 1) := by decide +kernel
theorem dX11_put_25 : decode cX11_put 25 = .ok (.bastore, 1) := by decide +kernel
theorem dX11_put_26 : decode cX11_put 26 = .ok (.iinc 3 1, 3) := by decide +kernel
theorem dX11_put_29 : decode cX11_put 29 = .ok (.goto (-27), 3) := by decide +kernel
theorem dX11_put_32 : decode cX11_put 32 = .ok (.aload_n 0, 1) := by decide +kernel
theorem dX11_put_33 : decode cX11_put 33 = .ok (.dup, 1) := by decide +kernel
theorem dX11_put_34 : decode cX11_put 34 = .ok (.getfield 298, 3) := by decide +kernel
theorem dX11_put_37 : decode cX11_put 37 = .ok (.aload_n 0, 1) := by decide +kernel
theorem dX11_put_38 : decode cX11_put 38 = .ok (.getfield 166, 3) := by decide +kernel
theorem dX11_put_41 : decode cX11_put 41 = .ok (.iadd, 1) := by decide +kernel
theorem dX11_put_42 : decode cX11_put 42 = .ok (.putfield 298, 3) := by decide +kernel
theorem dX11_put_45 : decode cX11_put 45 = .ok (.return_, 1) := by decide +kernel
theorem dX11_read_0 : decode cX11_read 0 = .ok (.iconst 0, 1) := by decide +kernel
theorem dX11_read_1 : decode cX11_read 1 = .ok (.istore_n 3, 1) := by decide +kernel
theorem dX11_read_2 : decode cX11_read 2 = .ok (.iload_n 3, 1) := by decide +kernel
theorem dX11_read_3 : decode cX11_read 3 = .ok (.aload_n 0, 1) := by decide +kernel
theorem dX11_read_4 : decode cX11_read 4 = .ok (.getfield 166, 3) := by decide +kernel
theorem dX11_read_7 : decode cX11_read 7 = .ok (.if_icmp .ge 25, 3) := by decide +kernel
theorem dX11_read_10 : decode cX11_read 10 = .ok (.aload_n 1, 1) := by decide +kernel
theorem dX11_read_11 : decode cX11_read 11 = .ok (.iload_n 2, 1) := by decide +kernel
theorem dX11_read_12 : decode cX11_read 12 = .ok (.iload_n 3, 1) := by decide +kernel
theorem dX11_read_13 : decode cX11_read 13 = .ok (.iadd, 1) := by decide +kernel
theorem dX11_read_14 : decode cX11_read 14 = .ok (.aload_n 0, 1) := by decide +kernel
theorem dX11_read_15 : decode cX11_read 15 = .ok (.getfield 150, 3) := by decide +kernel
theorem dX11_read_18 : decode cX11_read 18 = .ok (.aload_n 0, 1) := by decide +kernel
theorem dX11_read_19 : decode cX11_read 19 = .ok (.getfield 298, 3) := by decide +kernel
theorem dX11_read_22 : decode cX11_read 22 = .ok (.iload_n 3, 1) := by decide +kernel
theorem dX11_read_23 : decode cX11_read 23 = .ok (.iadd, 1) := by decide +kernel
theorem dX11_read_24 : decode cX11_read 24 = .ok (.baload, 1) := by decide +kernel
theorem dX11_read_25 : decode cX11_read 25 = .ok (.bastore, 1) := by decide +kernel
theorem dX11_read_26 : decode cX11_read 26 = .ok (.iinc 3 1, 3) := by decide +kernel
theorem dX11_read_29 : decode cX11_read 29 = .ok (.goto (-27), 3) := by decide +kernel
theorem dX11_read_32 : decode cX11_read 32 = .ok (.aload_n 0, 1) := by decide +kernel
theorem dX11_read_33 : decode cX11_read 33 = .ok (.dup, 1) := by decide +kernel
theorem dX11_read_34 : decode cX11_read 34 = .ok (.getfield 298, 3) := by decide +kernel
theorem dX11_read_37 : decode cX11_read 37 = .ok (.aload_n 0, 1) := by decide +kernel
theorem dX11_read_38 : decode cX11_read 38 = .ok (.getfield 166, 3) := by decide +kernel
theorem dX11_read_41 : decode cX11_read 41 = .ok (.iadd, 1) := by decide +kernel
theorem dX11_read_42 : decode cX11_read 42 = .ok (.putfield 298, 3) := by decide +kernel
theorem dX11_read_45 : decode cX11_read 45 = .ok (.return_, 1) := by decide +kernel
theorem dX11_in_0 : decode cX11_in 0 = .ok (.iload_n 0, 1) := by decide +kernel
theorem dX11_in_1 : decode cX11_in 1 = .ok (.iload_n 1, 1) := by decide +kernel
theorem dX11_in_2 : decode cX11_in 2 = .ok (.if_icmp .lt 12, 3) := by decide +kernel
theorem dX11_in_5 : decode cX11_in 5 = .ok (.iload_n 0, 1) := by decide +kernel
theorem dX11_in_6 : decode cX11_in 6 = .ok (.iload_n 2, 1) := by decide +kernel
theorem dX11_in_7 : decode cX11_in 7 = .ok (.if_icmp .gt 7, 3) := by decide +kernel
theorem dX11_in_10 : decode cX11_in 10 = .ok (.iconst 1, 1) := by decide +kernel
theorem dX11_in_11 : decode cX11_in 11 = .ok (.goto 4, 3) := by decide +kernel
theorem dX11_in_14 : decode cX11_in 14 = .ok (.iconst 0, 1) := by decide +kernel
theorem dX11_in_15 : decode cX11_in 15 = .ok (.ireturn, 1) := by decide +kernel
theorem dX11_measure_0 : decode cX11_measure 0 = .ok (.aload_n 0, 1) := by decide +kernel
theorem dX11_measure_1 : decode cX11_measure 1 = .ok (.aload_n 0, 1) := by decide +kernel
theorem dX11_measure_2 : decode cX11_measure 2 = .ok (.getfield 166, 3) := by decide +kernel
theorem dX11_measure_5 : decode cX11_measure 5 = .ok (.bipush 12, 2) := by decide +kernel
theorem dX11_measure_7 : decode cX11_measure 7 = .ok (.if_icmp .ge 14, 3) := by decide +kernel
theorem dX11_measure_10 : decode cX11_measure 10 = .ok (.iconst 2, 1) := by decide +kernel
theorem dX11_measure_11 : decode cX11_measure 11 = .ok (.aload_n 0, 1) := by decide +kernel
theorem dX11_measure_12 : decode cX11_measure 12 = .ok (.getfield 166, 3) := by decide +kernel
theorem dX11_measure_15 : decode cX11_measure 15 = .ok (.imul, 1) := by decide +kernel
theorem dX11_measure_16 : decode cX11_measure 16 = .ok (.iconst 2, 1) := by decide +kernel
theorem dX11_measure_17 : decode cX11_measure 17 = .ok (.iadd, 1) := by decide +kernel
theorem dX11_measure_18 : decode cX11_measure 18 = .ok (.goto 11, 3) := by decide +kernel
theorem dX11_measure_21 : decode cX11_measure 21 = .ok (.iconst 2, 1) := by decide +kernel
theorem dX11_measure_22 : decode cX11_measure 22 = .ok (.aload_n 0, 1) := by decide +kernel
theorem dX11_measure_23 : decode cX11_measure 23 = .ok (.getfield 166, 3) := by decide +kernel
theorem dX11_measure_26 : decode cX11_measure 26 = .ok (.imul, 1) := by decide +kernel
theorem dX11_measure_27 : decode cX11_measure 27 = .ok (.iconst 3, 1) := by decide +kernel
theorem dX11_measure_28 : decode cX11_measure 28 = .ok (.iadd, 1) := by decide +kernel
theorem dX11_measure_29 : decode cX11_measure 29 = .ok (.putfield 238, 3) := by decide +kernel
theorem dX11_measure_32 : decode cX11_measure 32 = .ok (.aload_n 0, 1) := by decide +kernel
theorem dX11_measure_33 : decode cX11_measure 33 = .ok (.aload_n 0, 1) := by decide +kernel
theorem dX11_measure_34 : decode cX11_measure 34 = .ok (.getfield 166, 3) := by decide +kernel
theorem dX11_measure_37 : decode cX11_measure 37 = .ok (.iconst 1, 1) := by decide +kernel
theorem dX11_measure_38 : decode cX11_measure 38 = .ok (.aload_n 0, 1) := by decide +kernel
theorem dX11_measure_39 : decode cX11_measure 39 = .ok (.getfield 178, 3) := by decide +kernel
theorem dX11_measure_42 : decode cX11_measure 42 = .ok (.aload_n 0, 1) := by decide +kernel
theorem dX11_measure_43 : decode cX11_measure 43 = .ok (.getfield 175, 3) := by decide +kernel
theorem dX11_measure_46 : decode cX11_measure 46 = .ok (.iconst 1, 1) := by decide +kernel
theorem dX11_measure_47 : decode cX11_measure 47 = .ok (.iadd, 1) := by decide +kernel
theorem dX11_measure_48 : decode cX11_measure 48 = .ok (.imul, 1) := by decide +kernel
theorem dX11_measure_49 : decode cX11_measure 49 = .ok (.iadd, 1) := by decide +kernel
theorem dX11_measure_50 : decode cX11_measure 50 = .ok (.aload_n 0, 1) := by decide +kernel
theorem dX11_measure_51 : decode cX11_measure 51 = .ok (.getfield 172, 3) := by decide +kernel
theorem dX11_measure_54 : decode cX11_measure 54 = .ok (.aload_n 0, 1) := by decide +kernel
theorem dX11_measure_55 : decode cX11_measure 55 = .ok (.getfield 238, 3) := by decide +kernel
theorem dX11_measure_58 : decode cX11_measure 58 = .ok (.aload_n 0, 1) := by decide +kernel
theorem dX11_measure_59 : decode cX11_measure 59 = .ok (.getfield 169, 3) := by decide +kernel
theorem dX11_measure_62 : decode cX11_measure 62 = .ok (.iadd, 1) := by decide +kernel
theorem dX11_measure_63 : decode cX11_measure 63 = .ok (.imul, 1) := by decide +kernel
theorem dX11_measure_64 : decode cX11_measure 64 = .ok (.iadd, 1) := by decide +kernel
theorem dX11_measure_65 : decode cX11_measure 65 = .ok (.imul, 1) := by decide +kernel
theorem dX11_measure_66 : decode cX11_measure 66 = .ok (.putfield 241, 3) := by decide +kernel
theorem dX11_measure_69 : decode cX11_measure 69 = .ok (.return_, 1) := by decide +kernel
set_option maxRecDepth 20000 in
theorem ggX11_layPadded_X11_lay : GoodIn wsX11_layPadded wsX11_lay := goodIn_r _ [7, 8, 9, 10, 11, 12, 13, 14, 15, 16, 17, 18, 19, 20, 21, 22, 23, 24, 25, 26, 27, 28, 29, 30, 31, 32, 33, 34, 35, 36, 37, 38, 39, 40, 41, 42, 43, 44, 45, 46, 47, 48, 49, 50, 51, 52] rfl (by decide +kernel)
set_option maxRecDepth 20000 in
theorem gX11_layPadded_X11_lay : GoodIn wsX11_layPadded (wsV RX11 198 RX11 yX11_lay wsX11_lay) := goodIn_app (goodIn_of _ (by decide +kernel)) ggX11_layPadded_X11_lay
theorem dX11_layPadded_0 : decode cX11_layPadded 0 = .ok (.iconst 0, 1) := by decide +kernel
theorem dX11_layPadded_1 : decode cX11_layPadded 1 = .ok (.istore_n 2, 1) := by decide +kernel
theorem dX11_layPadded_2 : decode cX11_layPadded 2 = .ok (.iload_n 2, 1) := by decide +kernel
theorem dX11_layPadded_3 : decode cX11_layPadded 3 = .ok (.bipush 64, 2) := by decide +kernel
theorem dX11_layPadded_5 : decode cX11_layPadded 5 = .ok (.if_icmp .ge 36, 3) := by decide +kernel
theorem dX11_layPadded_8 : decode cX11_layPadded 8 = .ok (.aload_n 0, 1) := by decide +kernel
theorem dX11_layPadded_9 : decode cX11_layPadded 9 = .ok (.iload_n 2, 1) := by decide +kernel
theorem dX11_layPadded_10 : decode cX11_layPadded 10 = .ok (.aload_n 0, 1) := by decide +kernel
theorem dX11_layPadded_11 : decode cX11_layPadded 11 = .ok (.getfield 166, 3) := by decide +kernel
theorem dX11_layPadded_14 : decode cX11_layPadded 14 = .ok (.if_icmp .ge 15, 3) := by decide +kernel
theorem dX11_layPadded_17 : decode cX11_layPadded 17 = .ok (.aload_n 0, 1) := by decide +kernel
theorem dX11_layPadded_18 : decode cX11_layPadded 18 = .ok (.getfield 120, 3) := by decide +kernel
theorem dX11_layPadded_21 : decode cX11_layPadded 21 = .ok (.bipush 16, 2) := by decide +kernel
theorem dX11_layPadded_23 : decode cX11_layPadded 23 = .ok (.iload_n 2, 1) := by decide +kernel
theorem dX11_layPadded_24 : decode cX11_layPadded 24 = .ok (.iadd, 1) := by decide +kernel
theorem dX11_layPadded_25 : decode cX11_layPadded 25 = .ok (.baload, 1) := by decide +kernel
theorem dX11_layPadded_26 : decode cX11_layPadded 26 = .ok (.goto 4, 3) := by decide +kernel
theorem dX11_layPadded_29 : decode cX11_layPadded 29 = .ok (.iconst 0, 1) := by decide +kernel
theorem dX11_layPadded_30 : decode cX11_layPadded 30 = .ok (.iload_n 1, 1) := by decide +kernel
theorem dX11_layPadded_31 : decode cX11_layPadded 31 = .ok (.ixor, 1) := by decide +kernel
theorem dX11_layPadded_32 : decode cX11_layPadded 32 = .ok (.invokevirtual 198, 3) := by decide +kernel
theorem dX11_layPadded_35 : decode cX11_layPadded 35 = .ok (.iinc 2 1, 3) := by decide +kernel
theorem dX11_layPadded_38 : decode cX11_layPadded 38 = .ok (.goto (-36), 3) := by decide +kernel
theorem dX11_layPadded_41 : decode cX11_layPadded 41 = .ok (.return_, 1) := by decide +kernel
set_option maxRecDepth 20000 in
theorem ggX11_layPair_X11_read : GoodIn wsX11_layPair wsX11_read := goodIn_r _ [7, 2, 8, 9, 20, 21, 22, 23, 24, 25, 26, 27, 28, 29, 30, 31, 32, 33, 34, 35, 36, 37, 38, 39, 40, 41, 42, 43, 44, 45, 46, 47, 48, 49, 50, 51, 52, 53, 54, 55, 56, 57, 58, 59, 60, 61, 62] rfl (by decide +kernel)
set_option maxRecDepth 20000 in
theorem gX11_layPair_X11_read : GoodIn wsX11_layPair (wsV RX11 325 RX11 yX11_read wsX11_read) := goodIn_app (goodIn_of _ (by decide +kernel)) ggX11_layPair_X11_read
set_option maxRecDepth 20000 in
theorem ggX11_layPair_X11_layRow : GoodIn wsX11_layPair wsX11_layRow := goodIn_r _ [13, 14, 15, 16, 6, 17, 18, 19, 20, 21, 22, 23, 24, 25, 26, 27, 28, 29, 30, 31, 32, 33, 34, 35, 36, 37, 38, 39, 40, 41, 42, 43, 44, 45, 46, 47, 48, 49, 50, 51, 52, 53, 54, 55, 56, 57, 58, 59, 60, 61, 62] rfl (by decide +kernel)
set_option maxRecDepth 20000 in
theorem gX11_layPair_X11_layRow : GoodIn wsX11_layPair (wsV RX11 270 RX11 yX11_layRow wsX11_layRow) := goodIn_app (goodIn_of _ (by decide +kernel)) ggX11_layPair_X11_layRow
theorem dX11_layPair_0 : decode cX11_layPair 0 = .ok (.aload_n 0, 1) := by decide +kernel
theorem dX11_layPair_1 : decode cX11_layPair 1 = .ok (.aload_n 0, 1) := by decide +kernel
theorem dX11_layPair_2 : decode cX11_layPair 2 = .ok (.getfield 138, 3) := by decide +kernel
theorem dX11_layPair_5 : decode cX11_layPair 5 = .ok (.iconst 0, 1) := by decide +kernel
theorem dX11_layPair_6 : decode cX11_layPair 6 = .ok (.invokevirtual 325, 3) := by decide +kernel
theorem dX11_layPair_9 : decode cX11_layPair 9 = .ok (.iload_n 2, 1) := by decide +kernel
theorem dX11_layPair_10 : decode cX11_layPair 10 = .ok (.iconst 2, 1) := by decide +kernel
theorem dX11_layPair_11 : decode cX11_layPair 11 = .ok (.irem, 1) := by decide +kernel
theorem dX11_layPair_12 : decode cX11_layPair 12 = .ok (.ifCond .ne 13, 3) := by decide +kernel
theorem dX11_layPair_15 : decode cX11_layPair 15 = .ok (.aload_n 0, 1) := by decide +kernel
theorem dX11_layPair_16 : decode cX11_layPair 16 = .ok (.aload_n 1, 1) := by decide +kernel
theorem dX11_layPair_17 : decode cX11_layPair 17 = .ok (.iconst 0, 1) := by decide +kernel
theorem dX11_layPair_18 : decode cX11_layPair 18 = .ok (.aload_n 0, 1) := by decide +kernel
theorem dX11_layPair_19 : decode cX11_layPair 19 = .ok (.getfield 166, 3) := by decide +kernel
theorem dX11_layPair_22 : decode cX11_layPair 22 = .ok (.invokevirtual 270, 3) := by decide +kernel
theorem dX11_layPair_25 : decode cX11_layPair 25 = .ok (.aload_n 0, 1) := by decide +kernel
theorem dX11_layPair_26 : decode cX11_layPair 26 = .ok (.aload_n 0, 1) := by decide +kernel
theorem dX11_layPair_27 : decode cX11_layPair 27 = .ok (.getfield 138, 3) := by decide +kernel
theorem dX11_layPair_30 : decode cX11_layPair 30 = .ok (.iconst 0, 1) := by decide +kernel
theorem dX11_layPair_31 : decode cX11_layPair 31 = .ok (.aload_n 0, 1) := by decide +kernel
theorem dX11_layPair_32 : decode cX11_layPair 32 = .ok (.getfield 166, 3) := by decide +kernel
theorem dX11_layPair_35 : decode cX11_layPair 35 = .ok (.invokevirtual 270, 3) := by decide +kernel
theorem dX11_layPair_38 : decode cX11_layPair 38 = .ok (.iload_n 2, 1) := by decide +kernel
theorem dX11_layPair_39 : decode cX11_layPair 39 = .ok (.iconst 2, 1) := by decide +kernel
theorem dX11_layPair_40 : decode cX11_layPair 40 = .ok (.irem, 1) := by decide +kernel
theorem dX11_layPair_41 : decode cX11_layPair 41 = .ok (.iconst 1, 1) := by decide +kernel
theorem dX11_layPair_42 : decode cX11_layPair 42 = .ok (.if_icmp .ne 13, 3) := by decide +kernel
theorem dX11_layPair_45 : decode cX11_layPair 45 = .ok (.aload_n 0, 1) := by decide +kernel
theorem dX11_layPair_46 : decode cX11_layPair 46 = .ok (.aload_n 1, 1) := by decide +kernel
theorem dX11_layPair_47 : decode cX11_layPair 47 = .ok (.iconst 0, 1) := by decide +kernel
theorem dX11_layPair_48 : decode cX11_layPair 48 = .ok (.aload_n 0, 1) := by decide +kernel
theorem dX11_layPair_49 : decode cX11_layPair 49 = .ok (.getfield 166, 3) := by decide +kernel
theorem dX11_layPair_52 : decode cX11_layPair 52 = .ok (.invokevirtual 270, 3) := by decide +kernel
theorem dX11_layPair_55 : decode cX11_layPair 55 = .ok (.return_, 1) := by decide +kernel
set_option maxHeartbeats 4000000 in
set_option maxRecDepth 100000 in
/-- the reference: nodeAt -/
theorem c_nodeAt (l : Launch) (g : jG) (h : Nat) (b : Nat → Nat) (v : Nat → Int32) (ht : Nat) (z : Nat) (i : Nat) (hv17 : v 17 = nI ht) (hhm : ht ≤ 2) (hz : z ≤ ht) : jC l g yX11_nodeAt wsX11_nodeAt ({ frames := 0, cells := 0, slots := 0, locals := 0 } : Room) [.ref h, .int (nI z), .int (nI i)] [oB h 11 (mO b v)] (fun jj : Unit => some (.int (nI (16 * (bfr ht z + i))))) (fun jj : Unit => True) (fun jj : Unit => [oB h 11 (mO b v)]) := by
  refine jC.of (cc := cX11_nodeAt) (own := RX11) (maxL := 5) (ret := (some .int)) (by decide +kernel) rfl rfl (Nat.le_of_ble_eq_true rfl) (fun u hu => ⟨_, rfl, rfl⟩) ?_
  intro p e s m below meth c A Q hX hret
  have in11 : ∀ w ∈ wsX110, w ∈ wsX11_nodeAt := (fun w h => List.mem_cons_of_mem _ (List.mem_append_right _ h))
  refine j_iconst hX (0) dX11_nodeAt_0 (by decide) ?_
  refine j_st [.int (nI 0)] rfl ?_
  refine j_istore_n hX 3 [(3, .int (nI 0)), (0, .ref h), (1, .int (nI z)), (2, .int (nI i))] dX11_nodeAt_1 rfl (by decide) rfl ?_
  refine j_iconst hX (0) dX11_nodeAt_2 (by decide) ?_
  refine j_st [.int (nI 0)] rfl ?_
  refine j_istore hX [(4, .int (nI 0)), (3, .int (nI 0)), (0, .ref h), (1, .int (nI z)), (2, .int (nI i))] dX11_nodeAt_3 (by decide) rfl ?_
  have lp_1 : ∀ (n_2 : Nat) (k : Nat) (bf : Nat), (z - k < n_2) → (k ≤ z) → (bf = bfr ht k) → J p l e ({ frames := 0, cells := 0, slots := 0, locals := 0 } : Room) s m ([.ref h, .int (nI z), .int (nI i)] : List Value).toArray below meth c g A 5 Q 0 0 [oB h 11 (mO b v)] [(0, .ref h), (1, .int (nI z)), (2, .int (nI i)), (3, .int (nI bf)), (4, .int (nI k))] 5 [] := by
    intro n_2
    induction n_2 with
    | zero => intro k bf hm; exact absurd hm (Nat.not_lt_zero _)
    | succ n_2 ih_3 =>
      intro k bf hm hk hbf
      refine j_iload hX 4 dX11_nodeAt_5 rfl ?_
      refine j_iload_n hX 1 dX11_nodeAt_7 rfl ?_
      refine j_icmp_geN hX k z 29 dX11_nodeAt_8 (by decide) (by omega) (by omega) (fun b_8 => ?_) (fun b_8 => ?_)
      · skip
        refine j_pc 29 rfl ?_
        refine j_bipush hX (16) dX11_nodeAt_29 (by decide) ?_
        refine j_iload_n hX 3 dX11_nodeAt_31 rfl ?_
        refine j_iload_n hX 2 dX11_nodeAt_32 rfl ?_
        refine j_iaddN hX bf i dX11_nodeAt_33 ?_
        refine j_imulN hX 16 (bf + i) dX11_nodeAt_34 ?_
        refine j_topeq _ (nI (16 * (bfr ht z + i))) (by rw [hbf, show k = z by omega]) ?_
        exact hret () trivial 35 _ .ireturn dX11_nodeAt_35 rfl
      · skip
        have hw16 : 2 ^ (ht - k) ≤ 16 := pow_le16 (by omega)
        refine j_iload_n hX 3 dX11_nodeAt_11 rfl ?_
        refine j_iconst hX (1) dX11_nodeAt_12 (by decide) ?_
        refine j_pc 13 rfl ?_
        refine j_aload_n hX 0 dX11_nodeAt_13 rfl ?_
        refine j_gete hX (nI ht) in11 11 0 17 rfl rfl (by decide) (List.mem_of_getElem? (i := 1) rfl) rfl rfl hv17 dX11_nodeAt_14 ?_
        refine j_iload hX 4 dX11_nodeAt_17 rfl ?_
        refine j_isubN hX ht k (by omega) dX11_nodeAt_19 ?_
        refine j_ishlN hX 1 (ht - k) (by omega) (by omega) dX11_nodeAt_20 ?_
        refine j_iaddN hX bf (1 * 2 ^ (ht - k)) dX11_nodeAt_21 ?_
        refine j_istore_n hX 3 [(3, .int (nI (bf + (1 * 2 ^ (ht - k))))), (0, .ref h), (1, .int (nI z)), (2, .int (nI i)), (4, .int (nI k))] dX11_nodeAt_22 rfl (by decide) rfl ?_
        refine j_iincN hX k (k + 1) [(4, .int (nI (k + 1))), (3, .int (nI (bf + (1 * 2 ^ (ht - k))))), (0, .ref h), (1, .int (nI z)), (2, .int (nI i))] 4 dX11_nodeAt_23 rfl (nI_1 _) (by decide) rfl ?_
        refine j_pc 26 rfl ?_
        refine j_goto hX 5 dX11_nodeAt_26 (by decide) ?_
        refine j_perm [(0, .ref h), (1, .int (nI z)), (2, .int (nI i)), (3, .int (nI (bf + (1 * 2 ^ (ht - k))))), (4, .int (nI (k + 1)))] [2, 3, 4, 1, 0] rfl ?_
        exact ih_3 (k + 1) (bf + (1 * 2 ^ (ht - k))) (by omega) (by omega) (by rw [hbf, Nat.one_mul]; rfl)
  refine j_perm [(0, .ref h), (1, .int (nI z)), (2, .int (nI i)), (3, .int (nI 0)), (4, .int (nI 0))] [2, 3, 4, 1, 0] rfl ?_
  exact lp_1 _ 0 0 (Nat.lt_succ_self _) (by omega) rfl

set_option maxHeartbeats 4000000 in
set_option maxRecDepth 100000 in
/-- the reference: fewAt -/
theorem c_fewAt (l : Launch) (g : jG) (h : Nat) (b : Nat → Nat) (v : Nat → Int32) (fa : Nat) (z : Nat) (i : Nat) (hv19 : v 19 = nI fa) (hhm : fa ≤ 4) (hz : z ≤ fa) : jC l g yX11_fewAt wsX11_fewAt ({ frames := 0, cells := 0, slots := 0, locals := 0 } : Room) [.ref h, .int (nI z), .int (nI i)] [oB h 11 (mO b v)] (fun jj : Unit => some (.int (nI (16 * (bfr fa z + i))))) (fun jj : Unit => True) (fun jj : Unit => [oB h 11 (mO b v)]) := by
  refine jC.of (cc := cX11_fewAt) (own := RX11) (maxL := 5) (ret := (some .int)) (by decide +kernel) rfl rfl (Nat.le_of_ble_eq_true rfl) (fun u hu => ⟨_, rfl, rfl⟩) ?_
  intro p e s m below meth c A Q hX hret
  have in11 : ∀ w ∈ wsX110, w ∈ wsX11_fewAt := (fun w h => List.mem_cons_of_mem _ (List.mem_append_right _ h))
  refine j_iconst hX (0) dX11_fewAt_0 (by decide) ?_
  refine j_st [.int (nI 0)] rfl ?_
  refine j_istore_n hX 3 [(3, .int (nI 0)), (0, .ref h), (1, .int (nI z)), (2, .int (nI i))] dX11_fewAt_1 rfl (by decide) rfl ?_
  refine j_iconst hX (0) dX11_fewAt_2 (by decide) ?_
  refine j_st [.int (nI 0)] rfl ?_
  refine j_istore hX [(4, .int (nI 0)), (3, .int (nI 0)), (0, .ref h), (1, .int (nI z)), (2, .int (nI i))] dX11_fewAt_3 (by decide) rfl ?_
  have lp_1 : ∀ (n_2 : Nat) (k : Nat) (bf : Nat), (z - k < n_2) → (k ≤ z) → (bf = bfr fa k) → J p l e ({ frames := 0, cells := 0, slots := 0, locals := 0 } : Room) s m ([.ref h, .int (nI z), .int (nI i)] : List Value).toArray below meth c g A 5 Q 0 0 [oB h 11 (mO b v)] [(0, .ref h), (1, .int (nI z)), (2, .int (nI i)), (3, .int (nI bf)), (4, .int (nI k))] 5 [] := by
    intro n_2
    induction n_2 with
    | zero => intro k bf hm; exact absurd hm (Nat.not_lt_zero _)
    | succ n_2 ih_3 =>
      intro k bf hm hk hbf
      refine j_iload hX 4 dX11_fewAt_5 rfl ?_
      refine j_iload_n hX 1 dX11_fewAt_7 rfl ?_
      refine j_icmp_geN hX k z 29 dX11_fewAt_8 (by decide) (by omega) (by omega) (fun b_8 => ?_) (fun b_8 => ?_)
      · skip
        refine j_pc 29 rfl ?_
        refine j_bipush hX (16) dX11_fewAt_29 (by decide) ?_
        refine j_iload_n hX 3 dX11_fewAt_31 rfl ?_
        refine j_iload_n hX 2 dX11_fewAt_32 rfl ?_
        refine j_iaddN hX bf i dX11_fewAt_33 ?_
        refine j_imulN hX 16 (bf + i) dX11_fewAt_34 ?_
        refine j_topeq _ (nI (16 * (bfr fa z + i))) (by rw [hbf, show k = z by omega]) ?_
        exact hret () trivial 35 _ .ireturn dX11_fewAt_35 rfl
      · skip
        have hw16 : 2 ^ (fa - k) ≤ 16 := pow_le16 (by omega)
        refine j_iload_n hX 3 dX11_fewAt_11 rfl ?_
        refine j_iconst hX (1) dX11_fewAt_12 (by decide) ?_
        refine j_pc 13 rfl ?_
        refine j_aload_n hX 0 dX11_fewAt_13 rfl ?_
        refine j_gete hX (nI fa) in11 11 0 19 rfl rfl (by decide) (List.mem_of_getElem? (i := 1) rfl) rfl rfl hv19 dX11_fewAt_14 ?_
        refine j_iload hX 4 dX11_fewAt_17 rfl ?_
        refine j_isubN hX fa k (by omega) dX11_fewAt_19 ?_
        refine j_ishlN hX 1 (fa - k) (by omega) (by omega) dX11_fewAt_20 ?_
        refine j_iaddN hX bf (1 * 2 ^ (fa - k)) dX11_fewAt_21 ?_
        refine j_istore_n hX 3 [(3, .int (nI (bf + (1 * 2 ^ (fa - k))))), (0, .ref h), (1, .int (nI z)), (2, .int (nI i)), (4, .int (nI k))] dX11_fewAt_22 rfl (by decide) rfl ?_
        refine j_iincN hX k (k + 1) [(4, .int (nI (k + 1))), (3, .int (nI (bf + (1 * 2 ^ (fa - k))))), (0, .ref h), (1, .int (nI z)), (2, .int (nI i))] 4 dX11_fewAt_23 rfl (nI_1 _) (by decide) rfl ?_
        refine j_pc 26 rfl ?_
        refine j_goto hX 5 dX11_fewAt_26 (by decide) ?_
        refine j_perm [(0, .ref h), (1, .int (nI z)), (2, .int (nI i)), (3, .int (nI (bf + (1 * 2 ^ (fa - k))))), (4, .int (nI (k + 1)))] [2, 3, 4, 1, 0] rfl ?_
        exact ih_3 (k + 1) (bf + (1 * 2 ^ (fa - k))) (by omega) (by omega) (by rw [hbf, Nat.one_mul]; rfl)
  refine j_perm [(0, .ref h), (1, .int (nI z)), (2, .int (nI i)), (3, .int (nI 0)), (4, .int (nI 0))] [2, 3, 4, 1, 0] rfl ?_
  exact lp_1 _ 0 0 (Nat.lt_succ_self _) (by omega) rfl

set_option maxHeartbeats 4000000 in
set_option maxRecDepth 100000 in
/-- the reference: grow -/
theorem c_grow (l : Launch) (g : jG) (h : Nat) (b : Nat → Nat) (v : Nat → Int32) (n0 : Nat) (f : Nat → Int32) (dg : Nat → Int32) (w0 : Nat → Int32) (S0 : Nat → Int32) (fs : Nat → Int32) (rt : Nat → Int32) (A0 : Nat → Int64) (T0 : Nat → Int64) (U0 : Nat → Int64) (tn : Nat → Int32) (sd : Nat → Int32) (fm : Nat) (nn : Nat) (ly : Nat) (tr : Nat) (ht : Nat) (e0 : Nat → Int32) (nd : Nat → Int32) (hv15 : v 15 = nI fm) (hv16 : v 16 = nI nn) (hv27 : v 27 = nI ly) (hv28 : v 28 = nI tr) (hfm : fm < 2) (hnn : nn ≤ 16) (hB : isB sd) (hfs : ∀ j, j < 8 → fs j = s_first.getD j 0) (hrt : ∀ j, j < 64 → rt j = s_cube.getD j 0) (htn : ∀ k, k < 25 → tn k = s_turns.getD k 0) (hv3 : v 3 = nI n0) (hn0 : n0 ≤ 1400) (hv21 : v 21 = nI (ln nn)) (hv17 : v 17 = nI ht) (hht : ht ≤ 2) (hEB : isB e0) (hNB : isB nd) : jC l g yX11_grow wsX11_grow ({ frames := 7, cells := 0, slots := 0, locals := 171 } : Room) [.ref h] [oB h 11 (mO b v), bA g (b 2) 1400 f, bA g (b 4) 32 dg, iA g (b 5) 64 w0, iA g (b 6) 8 S0, iA g (b 7) 8 fs, iA g (b 8) 64 rt, lA g (b 9) 25 A0, lA g (b 10) 25 T0, lA g (b 11) 5 U0, iA g (b 12) 25 tn, bA g (b 23) 48 sd, bA g (b 30) 560 e0, bA g (b 31) 112 nd] (fun jj : (Nat → Int32) × (Nat → Int32) × (Nat → Int64) × (Nat → Int64) × (Nat → Int64) × Nat × (Nat → Int32) × (Nat → Int32) × (Nat → Int32) × (Nat → Int32) => none) (fun jj : (Nat → Int32) × (Nat → Int32) × (Nat → Int64) × (Nat → Int64) × (Nat → Int64) × Nat × (Nat → Int32) × (Nat → Int32) × (Nat → Int32) × (Nat → Int32) => jj.2.2.2.2.2.1 ≤ 1400 ∧ isB jj.2.2.2.2.2.2.2.2.1 ∧ isB jj.2.2.2.2.2.2.2.2.2 ∧ ∀ z i, z ≤ ht → i < 2 ^ (ht - z) → slice jj.2.2.2.2.2.2.2.2.2 (16 * (bfr ht z + i)) nn = ND fm nn sd ly tr z i) (fun jj : (Nat → Int32) × (Nat → Int32) × (Nat → Int64) × (Nat → Int64) × (Nat → Int64) × Nat × (Nat → Int32) × (Nat → Int32) × (Nat → Int32) × (Nat → Int32) => [oB h 11 (mO b (upd v 3 (nI jj.2.2.2.2.2.1))), bA g (b 2) 1400 jj.2.2.2.2.2.2.1, bA g (b 4) 32 jj.2.2.2.2.2.2.2.1, iA g (b 5) 64 jj.1, iA g (b 6) 8 jj.2.1, iA g (b 7) 8 fs, iA g (b 8) 64 rt, lA g (b 9) 25 jj.2.2.1, lA g (b 10) 25 jj.2.2.2.1, lA g (b 11) 5 jj.2.2.2.2.1, iA g (b 12) 25 tn, bA g (b 23) 48 sd, bA g (b 30) 560 jj.2.2.2.2.2.2.2.2.1, bA g (b 31) 112 jj.2.2.2.2.2.2.2.2.2]) := by
  refine jC.of (cc := cX11_grow) (own := RX11) (maxL := 3) (ret := none) (by decide +kernel) rfl rfl (Nat.le_of_ble_eq_true rfl) (fun u hu => rfl) ?_
  intro p e s m below meth c A Q hX hret
  have in11 : ∀ w ∈ wsX110, w ∈ wsX11_grow := (fun w h => List.mem_cons_of_mem _ (List.mem_append_right _ h))
  have hh := hl_le (fm := fm) hnn
  have hp4 := pow4 hht
  have hpp := Nat.two_pow_pos ht
  refine j_w [oB h 11 (mO b (upd v 3 (nI n0))), bA g (b 2) 1400 f, bA g (b 4) 32 dg, iA g (b 5) 64 w0, iA g (b 6) 8 S0, iA g (b 7) 8 fs, iA g (b 8) 64 rt, lA g (b 9) 25 A0, lA g (b 10) 25 T0, lA g (b 11) 5 U0, iA g (b 12) 25 tn, bA g (b 23) 48 sd, bA g (b 30) 560 e0, bA g (b 31) 112 nd] (by rw [updS (hv3 : (v : Nat → Int32) 3 = nI n0)]) ?_
  refine j_iconst hX (0) dX11_grow_0 (by decide) ?_
  refine j_st [.int (nI 0)] rfl ?_
  refine j_istore_n hX 1 [(1, .int (nI 0)), (0, .ref h)] dX11_grow_1 rfl (by decide) rfl ?_
  have lp_1 : ∀ (n_2 : Nat) (k : Nat) (w1 : Nat → Int32) (S1 : Nat → Int32) (A1 : Nat → Int64) (T1 : Nat → Int64) (U1 : Nat → Int64) (nl : Nat) (G : Nat → Int32) (FO : Nat → Int32) (E : Nat → Int32) (N1 : Nat → Int32), (2 ^ ht - k < n_2) → (k ≤ 2 ^ ht) → (nl ≤ 1400) → (isB E) → (isB N1) → (nOK N1 ht nn (fun z i => ND fm nn sd ly tr z i) 0 k) → J p l e ({ frames := 7, cells := 0, slots := 0, locals := 171 } : Room) s m ([.ref h] : List Value).toArray below meth c g A 3 Q 0 0 [oB h 11 (mO b (upd v 3 (nI nl))), bA g (b 2) 1400 G, bA g (b 4) 32 FO, iA g (b 5) 64 w1, iA g (b 6) 8 S1, iA g (b 7) 8 fs, iA g (b 8) 64 rt, lA g (b 9) 25 A1, lA g (b 10) 25 T1, lA g (b 11) 5 U1, iA g (b 12) 25 tn, bA g (b 23) 48 sd, bA g (b 30) 560 E, bA g (b 31) 112 N1] [(0, .ref h), (1, .int (nI k))] 2 [] := by
    intro n_2
    induction n_2 with
    | zero => intro k w1 S1 A1 T1 U1 nl G FO E N1 hm; exact absurd hm (Nat.not_lt_zero _)
    | succ n_2 ih_3 =>
      intro k w1 S1 A1 T1 U1 nl G FO E N1 hm hk hnl hE1 hN1 hOK
      refine j_iload_n hX 1 dX11_grow_2 rfl ?_
      refine j_iconst hX (1) dX11_grow_3 (by decide) ?_
      refine j_aload_n hX 0 dX11_grow_4 rfl ?_
      refine j_gete hX (nI ht) in11 11 0 17 rfl rfl (by decide) (List.mem_of_getElem? (i := 1) rfl) rfl rfl hv17 dX11_grow_5 ?_
      refine j_ishlN hX 1 ht (by omega) (by omega) dX11_grow_8 ?_
      refine j_pc 9 rfl ?_
      refine j_icmp_geN hX k (1 * 2 ^ ht) 33 dX11_grow_9 (by decide) (by omega) (by omega) (fun b_9 => ?_) (fun b_9 => ?_)
      · skip
        refine j_iconst hX (1) dX11_grow_33 (by decide) ?_
        refine j_st [.int (nI 1)] rfl ?_
        refine j_istore_n hX 1 [(1, .int (nI 1)), (0, .ref h)] dX11_grow_34 rfl (by decide) rfl ?_
        have lp_4 : ∀ (n_5 : Nat) (z : Nat) (w1 : Nat → Int32) (S1 : Nat → Int32) (A1 : Nat → Int64) (T1 : Nat → Int64) (U1 : Nat → Int64) (nl : Nat) (G : Nat → Int32) (FO : Nat → Int32) (N1 : Nat → Int32), (ht + 1 - z < n_5) → (1 ≤ z) → (z ≤ ht + 1) → (nl ≤ 1400) → (isB N1) → (nOK N1 ht nn (fun z i => ND fm nn sd ly tr z i) z 0) → J p l e ({ frames := 7, cells := 0, slots := 0, locals := 171 } : Room) s m ([.ref h] : List Value).toArray below meth c g A 3 Q 0 0 [oB h 11 (mO b (upd v 3 (nI nl))), bA g (b 2) 1400 G, bA g (b 4) 32 FO, iA g (b 5) 64 w1, iA g (b 6) 8 S1, iA g (b 7) 8 fs, iA g (b 8) 64 rt, lA g (b 9) 25 A1, lA g (b 10) 25 T1, lA g (b 11) 5 U1, iA g (b 12) 25 tn, bA g (b 23) 48 sd, bA g (b 30) 560 E, bA g (b 31) 112 N1] [(0, .ref h), (1, .int (nI z))] 35 [] := by
          intro n_5
          induction n_5 with
          | zero => intro z w1 S1 A1 T1 U1 nl G FO N1 hm; exact absurd hm (Nat.not_lt_zero _)
          | succ n_5 ih_6 =>
            intro z w1 S1 A1 T1 U1 nl G FO N1 hm hz1 hz2 hnl hN1 hOK
            refine j_iload_n hX 1 dX11_grow_35 rfl ?_
            refine j_aload_n hX 0 dX11_grow_36 rfl ?_
            refine j_gete hX (nI ht) in11 11 0 17 rfl rfl (by decide) (List.mem_of_getElem? (i := 1) rfl) rfl rfl hv17 dX11_grow_37 ?_
            refine j_icmp_gtN hX z ht 137 dX11_grow_40 (by decide) (by omega) (by omega) (fun b_40 => ?_) (fun b_40 => ?_)
            · skip
              exact hret (w1, S1, A1, T1, U1, nl, G, FO, E, N1) (by dsimp only; exact ⟨hnl, hE1, hN1, fun z2 i2 h1 h2 => hOK z2 i2 (Or.inl ⟨by omega, h2⟩)⟩) 137 _ .return_ dX11_grow_137 rfl
            · skip
              have hzh : z ≤ ht := by omega
              have hwd := pow_half (h := ht) (z := z - 1) (by omega)
              rw [show z - 1 + 1 = z by omega] at hwd
              have hw4 : 2 ^ (ht - z) ≤ 4 := pow4 (by omega)
              refine j_pc 43 rfl ?_
              refine j_iconst hX (0) dX11_grow_43 (by decide) ?_
              refine j_st [.int (nI 0)] rfl ?_
              refine j_istore_n hX 2 [(2, .int (nI 0)), (0, .ref h), (1, .int (nI z))] dX11_grow_44 rfl (by decide) rfl ?_
              have lp_7 : ∀ (n_8 : Nat) (i : Nat) (w1 : Nat → Int32) (S1 : Nat → Int32) (A1 : Nat → Int64) (T1 : Nat → Int64) (U1 : Nat → Int64) (nl : Nat) (G : Nat → Int32) (FO : Nat → Int32) (N1 : Nat → Int32), (2 ^ (ht - z) - i < n_8) → (i ≤ 2 ^ (ht - z)) → (nl ≤ 1400) → (isB N1) → (nOK N1 ht nn (fun z i => ND fm nn sd ly tr z i) z i) → J p l e ({ frames := 7, cells := 0, slots := 0, locals := 171 } : Room) s m ([.ref h] : List Value).toArray below meth c g A 3 Q 0 0 [oB h 11 (mO b (upd v 3 (nI nl))), bA g (b 2) 1400 G, bA g (b 4) 32 FO, iA g (b 5) 64 w1, iA g (b 6) 8 S1, iA g (b 7) 8 fs, iA g (b 8) 64 rt, lA g (b 9) 25 A1, lA g (b 10) 25 T1, lA g (b 11) 5 U1, iA g (b 12) 25 tn, bA g (b 23) 48 sd, bA g (b 30) 560 E, bA g (b 31) 112 N1] [(0, .ref h), (1, .int (nI z)), (2, .int (nI i))] 45 [] := by
                intro n_8
                induction n_8 with
                | zero => intro i w1 S1 A1 T1 U1 nl G FO N1 hm; exact absurd hm (Nat.not_lt_zero _)
                | succ n_8 ih_9 =>
                  intro i w1 S1 A1 T1 U1 nl G FO N1 hm hi hnl hN1 hOK
                  refine j_iload_n hX 2 dX11_grow_45 rfl ?_
                  refine j_iconst hX (1) dX11_grow_46 (by decide) ?_
                  refine j_aload_n hX 0 dX11_grow_47 rfl ?_
                  refine j_gete hX (nI ht) in11 11 0 17 rfl rfl (by decide) (List.mem_of_getElem? (i := 1) rfl) rfl rfl hv17 dX11_grow_48 ?_
                  refine j_iload_n hX 1 dX11_grow_51 rfl ?_
                  refine j_isubN hX ht z (by omega) dX11_grow_52 ?_
                  refine j_pc 53 rfl ?_
                  refine j_ishlN hX 1 (ht - z) (by omega) (by omega) dX11_grow_53 ?_
                  refine j_icmp_geN hX i (1 * 2 ^ (ht - z)) 131 dX11_grow_54 (by decide) (by omega) (by omega) (fun b_54 => ?_) (fun b_54 => ?_)
                  · skip
                    refine j_iincN hX z (z + 1) [(1, .int (nI (z + 1))), (0, .ref h), (2, .int (nI i))] 1 dX11_grow_131 rfl (nI_1 _) (by decide) rfl ?_
                    refine j_goto hX 35 dX11_grow_134 (by decide) ?_
                    refine j_perm [(0, .ref h), (1, .int (nI (z + 1)))] [1, 0] rfl ?_
                    exact ih_6 (z + 1) w1 S1 A1 T1 U1 nl G FO N1 (by omega) (by omega) (by omega) (by omega) (by omega) (nOK_next hOK (by omega))
                  · skip
                    have hil : i < 2 ^ (ht - z) := by omega
                    have hc1 := bfr_cap (h := ht) (z := z) (i := i) hzh hil
                    have hc2 := bfr_cap (h := ht) (z := z - 1) (i := 2 * i) (by omega) (by omega)
                    have hc3 := bfr_cap (h := ht) (z := z - 1) (i := 2 * i + 1) (by omega) (by omega)
                    refine j_aload_n hX 0 dX11_grow_57 rfl ?_
                    refine j_iconst hX (2) dX11_grow_58 (by decide) ?_
                    refine j_iconst hX (0) dX11_grow_59 (by decide) ?_
                    refine j_iload_n hX 1 dX11_grow_60 rfl ?_
                    refine j_pc 61 rfl ?_
                    refine j_iload_n hX 2 dX11_grow_61 rfl ?_
                    refine j_callV2 hX 4 (c_begin l g h b (upd v 3 (nI nl)) G sd fm nn ly tr 2 0 z i hv15 hv16 hv27 hv28 (by omega) (by omega) hB) gX11_grow_X11_begin (by decide +kernel) rfl ⟨rfl, rfl⟩ ⟨Nat.le_of_ble_eq_true rfl, Nat.le_of_ble_eq_true rfl⟩ 11 0 rfl rfl [0, 1, 11] [2, 3, 4, 5, 6, 7, 8, 9, 10, 12, 13] 14 rfl (by decide) (fun jj : (Nat → Int32) => [oB h 11 (mO b (upd v 3 (nI (hl fm nn)))), bA g (b 2) 1400 jj, bA g (b 4) 32 FO, iA g (b 5) 64 w1, iA g (b 6) 8 S1, iA g (b 7) 8 fs, iA g (b 8) 64 rt, lA g (b 9) 25 A1, lA g (b 10) 25 T1, lA g (b 11) 5 U1, iA g (b 12) 25 tn, bA g (b 23) 48 sd, bA g (b 30) 560 E, bA g (b 31) 112 N1]) (fun _ => rfl) (by decide) [h, (b 2), (b 4), (b 5), (b 6), (b 7), (b 8), (b 9), (b 10), (b 11), (b 12), (b 23), (b 30), (b 31)] rfl (fun _ => rfl) (fun _ => rfl) [bA g (b 4) 32 FO, iA g (b 5) 64 w1, iA g (b 6) 8 S1, iA g (b 7) 8 fs, iA g (b 8) 64 rt, lA g (b 9) 25 A1, lA g (b 10) 25 T1, lA g (b 11) 5 U1, iA g (b 12) 25 tn, bA g (b 30) 560 E, bA g (b 31) 112 N1] rfl (fun _ => rfl) rfl [] rfl (Nat.le_of_ble_eq_true rfl) ⟨Nat.le_refl _, Nat.le_refl _⟩ dX11_grow_62 ?_
                    intro F1 hF1
                    try dsimp only at hF1
                    refine j_w [oB h 11 (mO b (upd v 3 (nI (hl fm nn)))), bA g (b 2) 1400 F1, bA g (b 4) 32 FO, iA g (b 5) 64 w1, iA g (b 6) 8 S1, iA g (b 7) 8 fs, iA g (b 8) 64 rt, lA g (b 9) 25 A1, lA g (b 10) 25 T1, lA g (b 11) 5 U1, iA g (b 12) 25 tn, bA g (b 23) 48 sd, bA g (b 30) 560 E, bA g (b 31) 112 N1] rfl ?_
                    refine j_st [] rfl ?_
                    refine j_aload_n hX 0 dX11_grow_65 rfl ?_
                    refine j_aload_n hX 0 dX11_grow_66 rfl ?_
                    refine j_get hX in11 11 0 31 (v := .ref (b 31)) rfl rfl (by decide) (List.mem_of_getElem? (i := 2) rfl) rfl rfl dX11_grow_67 ?_
                    refine j_aload_n hX 0 dX11_grow_70 rfl ?_
                    refine j_iload_n hX 1 dX11_grow_71 rfl ?_
                    refine j_iconst hX (1) dX11_grow_72 (by decide) ?_
                    refine j_pc 73 rfl ?_
                    refine j_isubN hX z 1 (by omega) dX11_grow_73 ?_
                    refine j_iconst hX (2) dX11_grow_74 (by decide) ?_
                    refine j_iload_n hX 2 dX11_grow_75 rfl ?_
                    refine j_imulN hX 2 i dX11_grow_76 ?_
                    refine j_callV2 hX 2 (c_nodeAt l g h b (upd v 3 (nI (hl fm nn))) ht (z - 1) (2 * i) hv17 (by omega) (by omega)) gX11_grow_X11_nodeAt (by decide +kernel) rfl ⟨rfl, rfl⟩ ⟨Nat.le_of_ble_eq_true rfl, Nat.le_of_ble_eq_true rfl⟩ 11 0 rfl rfl [0] [1, 2, 3, 4, 5, 6, 7, 8, 9, 10, 11, 12, 13] 14 rfl (by decide) (fun jj : Unit => [oB h 11 (mO b (upd v 3 (nI (hl fm nn)))), bA g (b 2) 1400 F1, bA g (b 4) 32 FO, iA g (b 5) 64 w1, iA g (b 6) 8 S1, iA g (b 7) 8 fs, iA g (b 8) 64 rt, lA g (b 9) 25 A1, lA g (b 10) 25 T1, lA g (b 11) 5 U1, iA g (b 12) 25 tn, bA g (b 23) 48 sd, bA g (b 30) 560 E, bA g (b 31) 112 N1]) (fun _ => rfl) (by decide) [h, (b 2), (b 4), (b 5), (b 6), (b 7), (b 8), (b 9), (b 10), (b 11), (b 12), (b 23), (b 30), (b 31)] rfl (fun _ => rfl) (fun _ => rfl) [bA g (b 2) 1400 F1, bA g (b 4) 32 FO, iA g (b 5) 64 w1, iA g (b 6) 8 S1, iA g (b 7) 8 fs, iA g (b 8) 64 rt, lA g (b 9) 25 A1, lA g (b 10) 25 T1, lA g (b 11) 5 U1, iA g (b 12) 25 tn, bA g (b 23) 48 sd, bA g (b 30) 560 E, bA g (b 31) 112 N1] rfl (fun _ => rfl) rfl [.ref (b 31), .ref h] rfl (Nat.le_of_ble_eq_true rfl) ⟨Nat.le_refl _, Nat.le_refl _⟩ dX11_grow_77 ?_
                    intro _ hu_10
                    refine j_w [oB h 11 (mO b (upd v 3 (nI (hl fm nn)))), bA g (b 2) 1400 F1, bA g (b 4) 32 FO, iA g (b 5) 64 w1, iA g (b 6) 8 S1, iA g (b 7) 8 fs, iA g (b 8) 64 rt, lA g (b 9) 25 A1, lA g (b 10) 25 T1, lA g (b 11) 5 U1, iA g (b 12) 25 tn, bA g (b 23) 48 sd, bA g (b 30) 560 E, bA g (b 31) 112 N1] rfl ?_
                    refine j_st [.int (nI (16 * (bfr ht (z - 1) + (2 * i)))), .ref (b 31), .ref h] rfl ?_
                    refine j_aload_n hX 0 dX11_grow_80 rfl ?_
                    refine j_gete hX (nI nn) in11 11 0 16 rfl rfl (by decide) (List.mem_of_getElem? (i := 3) rfl) rfl rfl hv16 dX11_grow_81 ?_
                    refine j_callV2 hX 3 (c_layRow l g h b (upd v 3 (nI (hl fm nn))) (hl fm nn) F1 (b 31) 112 N1 (16 * (bfr ht (z - 1) + (2 * i))) nn rfl (by omega) (by omega) (by omega) hN1) gX11_grow_X11_layRow (by decide +kernel) rfl ⟨rfl, rfl⟩ ⟨Nat.le_of_ble_eq_true rfl, Nat.le_of_ble_eq_true rfl⟩ 11 0 rfl rfl [0, 1, 13] [2, 3, 4, 5, 6, 7, 8, 9, 10, 11, 12] 14 rfl (by decide) (fun jj : (Nat → Int32) => [oB h 11 (mO b (upd v 3 (nI ((hl fm nn) + nn)))), bA g (b 2) 1400 jj, bA g (b 4) 32 FO, iA g (b 5) 64 w1, iA g (b 6) 8 S1, iA g (b 7) 8 fs, iA g (b 8) 64 rt, lA g (b 9) 25 A1, lA g (b 10) 25 T1, lA g (b 11) 5 U1, iA g (b 12) 25 tn, bA g (b 23) 48 sd, bA g (b 30) 560 E, bA g (b 31) 112 N1]) (fun _ => rfl) (by decide) [h, (b 2), (b 4), (b 5), (b 6), (b 7), (b 8), (b 9), (b 10), (b 11), (b 12), (b 23), (b 30), (b 31)] rfl (fun _ => rfl) (fun _ => rfl) [bA g (b 4) 32 FO, iA g (b 5) 64 w1, iA g (b 6) 8 S1, iA g (b 7) 8 fs, iA g (b 8) 64 rt, lA g (b 9) 25 A1, lA g (b 10) 25 T1, lA g (b 11) 5 U1, iA g (b 12) 25 tn, bA g (b 23) 48 sd, bA g (b 30) 560 E] rfl (fun _ => rfl) rfl [] rfl (Nat.le_of_ble_eq_true rfl) ⟨Nat.le_refl _, Nat.le_refl _⟩ dX11_grow_84 ?_
                    intro F2 hF2
                    try dsimp only at hF2
                    refine j_w [oB h 11 (mO b (upd v 3 (nI ((hl fm nn) + nn)))), bA g (b 2) 1400 F2, bA g (b 4) 32 FO, iA g (b 5) 64 w1, iA g (b 6) 8 S1, iA g (b 7) 8 fs, iA g (b 8) 64 rt, lA g (b 9) 25 A1, lA g (b 10) 25 T1, lA g (b 11) 5 U1, iA g (b 12) 25 tn, bA g (b 23) 48 sd, bA g (b 30) 560 E, bA g (b 31) 112 N1] rfl ?_
                    refine j_st [] rfl ?_
                    refine j_pc 87 rfl ?_
                    refine j_aload_n hX 0 dX11_grow_87 rfl ?_
                    refine j_aload_n hX 0 dX11_grow_88 rfl ?_
                    refine j_get hX in11 11 0 31 (v := .ref (b 31)) rfl rfl (by decide) (List.mem_of_getElem? (i := 2) rfl) rfl rfl dX11_grow_89 ?_
                    refine j_aload_n hX 0 dX11_grow_92 rfl ?_
                    refine j_iload_n hX 1 dX11_grow_93 rfl ?_
                    refine j_iconst hX (1) dX11_grow_94 (by decide) ?_
                    refine j_isubN hX z 1 (by omega) dX11_grow_95 ?_
                    refine j_iconst hX (2) dX11_grow_96 (by decide) ?_
                    refine j_pc 97 rfl ?_
                    refine j_iload_n hX 2 dX11_grow_97 rfl ?_
                    refine j_imulN hX 2 i dX11_grow_98 ?_
                    refine j_iconst hX (1) dX11_grow_99 (by decide) ?_
                    refine j_iaddN hX (2 * i) 1 dX11_grow_100 ?_
                    refine j_callV2 hX 2 (c_nodeAt l g h b (upd v 3 (nI ((hl fm nn) + nn))) ht (z - 1) ((2 * i) + 1) hv17 (by omega) (by omega)) gX11_grow_X11_nodeAt (by decide +kernel) rfl ⟨rfl, rfl⟩ ⟨Nat.le_of_ble_eq_true rfl, Nat.le_of_ble_eq_true rfl⟩ 11 0 rfl rfl [0] [1, 2, 3, 4, 5, 6, 7, 8, 9, 10, 11, 12, 13] 14 rfl (by decide) (fun jj : Unit => [oB h 11 (mO b (upd v 3 (nI ((hl fm nn) + nn)))), bA g (b 2) 1400 F2, bA g (b 4) 32 FO, iA g (b 5) 64 w1, iA g (b 6) 8 S1, iA g (b 7) 8 fs, iA g (b 8) 64 rt, lA g (b 9) 25 A1, lA g (b 10) 25 T1, lA g (b 11) 5 U1, iA g (b 12) 25 tn, bA g (b 23) 48 sd, bA g (b 30) 560 E, bA g (b 31) 112 N1]) (fun _ => rfl) (by decide) [h, (b 2), (b 4), (b 5), (b 6), (b 7), (b 8), (b 9), (b 10), (b 11), (b 12), (b 23), (b 30), (b 31)] rfl (fun _ => rfl) (fun _ => rfl) [bA g (b 2) 1400 F2, bA g (b 4) 32 FO, iA g (b 5) 64 w1, iA g (b 6) 8 S1, iA g (b 7) 8 fs, iA g (b 8) 64 rt, lA g (b 9) 25 A1, lA g (b 10) 25 T1, lA g (b 11) 5 U1, iA g (b 12) 25 tn, bA g (b 23) 48 sd, bA g (b 30) 560 E, bA g (b 31) 112 N1] rfl (fun _ => rfl) rfl [.ref (b 31), .ref h] rfl (Nat.le_of_ble_eq_true rfl) ⟨Nat.le_refl _, Nat.le_refl _⟩ dX11_grow_101 ?_
                    intro _ hu_11
                    refine j_w [oB h 11 (mO b (upd v 3 (nI ((hl fm nn) + nn)))), bA g (b 2) 1400 F2, bA g (b 4) 32 FO, iA g (b 5) 64 w1, iA g (b 6) 8 S1, iA g (b 7) 8 fs, iA g (b 8) 64 rt, lA g (b 9) 25 A1, lA g (b 10) 25 T1, lA g (b 11) 5 U1, iA g (b 12) 25 tn, bA g (b 23) 48 sd, bA g (b 30) 560 E, bA g (b 31) 112 N1] rfl ?_
                    refine j_st [.int (nI (16 * (bfr ht (z - 1) + ((2 * i) + 1)))), .ref (b 31), .ref h] rfl ?_
                    refine j_aload_n hX 0 dX11_grow_104 rfl ?_
                    refine j_gete hX (nI nn) in11 11 0 16 rfl rfl (by decide) (List.mem_of_getElem? (i := 3) rfl) rfl rfl hv16 dX11_grow_105 ?_
                    refine j_callV2 hX 3 (c_layRow l g h b (upd v 3 (nI ((hl fm nn) + nn))) ((hl fm nn) + nn) F2 (b 31) 112 N1 (16 * (bfr ht (z - 1) + ((2 * i) + 1))) nn rfl (by omega) (by omega) (by omega) hN1) gX11_grow_X11_layRow (by decide +kernel) rfl ⟨rfl, rfl⟩ ⟨Nat.le_of_ble_eq_true rfl, Nat.le_of_ble_eq_true rfl⟩ 11 0 rfl rfl [0, 1, 13] [2, 3, 4, 5, 6, 7, 8, 9, 10, 11, 12] 14 rfl (by decide) (fun jj : (Nat → Int32) => [oB h 11 (mO b (upd v 3 (nI (((hl fm nn) + nn) + nn)))), bA g (b 2) 1400 jj, bA g (b 4) 32 FO, iA g (b 5) 64 w1, iA g (b 6) 8 S1, iA g (b 7) 8 fs, iA g (b 8) 64 rt, lA g (b 9) 25 A1, lA g (b 10) 25 T1, lA g (b 11) 5 U1, iA g (b 12) 25 tn, bA g (b 23) 48 sd, bA g (b 30) 560 E, bA g (b 31) 112 N1]) (fun _ => rfl) (by decide) [h, (b 2), (b 4), (b 5), (b 6), (b 7), (b 8), (b 9), (b 10), (b 11), (b 12), (b 23), (b 30), (b 31)] rfl (fun _ => rfl) (fun _ => rfl) [bA g (b 4) 32 FO, iA g (b 5) 64 w1, iA g (b 6) 8 S1, iA g (b 7) 8 fs, iA g (b 8) 64 rt, lA g (b 9) 25 A1, lA g (b 10) 25 T1, lA g (b 11) 5 U1, iA g (b 12) 25 tn, bA g (b 23) 48 sd, bA g (b 30) 560 E] rfl (fun _ => rfl) rfl [] rfl (Nat.le_of_ble_eq_true rfl) ⟨Nat.le_refl _, Nat.le_refl _⟩ dX11_grow_108 ?_
                    intro F3 hF3
                    try dsimp only at hF3
                    refine j_w [oB h 11 (mO b (upd v 3 (nI (((hl fm nn) + nn) + nn)))), bA g (b 2) 1400 F3, bA g (b 4) 32 FO, iA g (b 5) 64 w1, iA g (b 6) 8 S1, iA g (b 7) 8 fs, iA g (b 8) 64 rt, lA g (b 9) 25 A1, lA g (b 10) 25 T1, lA g (b 11) 5 U1, iA g (b 12) 25 tn, bA g (b 23) 48 sd, bA g (b 30) 560 E, bA g (b 31) 112 N1] rfl ?_
                    refine j_st [] rfl ?_
                    refine j_pc 111 rfl ?_
                    refine j_aload_n hX 0 dX11_grow_111 rfl ?_
                    refine j_aload_n hX 0 dX11_grow_112 rfl ?_
                    refine j_get hX in11 11 0 31 (v := .ref (b 31)) rfl rfl (by decide) (List.mem_of_getElem? (i := 2) rfl) rfl rfl dX11_grow_113 ?_
                    refine j_aload_n hX 0 dX11_grow_116 rfl ?_
                    refine j_iload_n hX 1 dX11_grow_117 rfl ?_
                    refine j_iload_n hX 2 dX11_grow_118 rfl ?_
                    refine j_callV2 hX 2 (c_nodeAt l g h b (upd v 3 (nI (((hl fm nn) + nn) + nn))) ht z i hv17 (by omega) (by omega)) gX11_grow_X11_nodeAt (by decide +kernel) rfl ⟨rfl, rfl⟩ ⟨Nat.le_of_ble_eq_true rfl, Nat.le_of_ble_eq_true rfl⟩ 11 0 rfl rfl [0] [1, 2, 3, 4, 5, 6, 7, 8, 9, 10, 11, 12, 13] 14 rfl (by decide) (fun jj : Unit => [oB h 11 (mO b (upd v 3 (nI (((hl fm nn) + nn) + nn)))), bA g (b 2) 1400 F3, bA g (b 4) 32 FO, iA g (b 5) 64 w1, iA g (b 6) 8 S1, iA g (b 7) 8 fs, iA g (b 8) 64 rt, lA g (b 9) 25 A1, lA g (b 10) 25 T1, lA g (b 11) 5 U1, iA g (b 12) 25 tn, bA g (b 23) 48 sd, bA g (b 30) 560 E, bA g (b 31) 112 N1]) (fun _ => rfl) (by decide) [h, (b 2), (b 4), (b 5), (b 6), (b 7), (b 8), (b 9), (b 10), (b 11), (b 12), (b 23), (b 30), (b 31)] rfl (fun _ => rfl) (fun _ => rfl) [bA g (b 2) 1400 F3, bA g (b 4) 32 FO, iA g (b 5) 64 w1, iA g (b 6) 8 S1, iA g (b 7) 8 fs, iA g (b 8) 64 rt, lA g (b 9) 25 A1, lA g (b 10) 25 T1, lA g (b 11) 5 U1, iA g (b 12) 25 tn, bA g (b 23) 48 sd, bA g (b 30) 560 E, bA g (b 31) 112 N1] rfl (fun _ => rfl) rfl [.ref (b 31), .ref h] rfl (Nat.le_of_ble_eq_true rfl) ⟨Nat.le_refl _, Nat.le_refl _⟩ dX11_grow_119 ?_
                    intro _ hu_12
                    refine j_w [oB h 11 (mO b (upd v 3 (nI (((hl fm nn) + nn) + nn)))), bA g (b 2) 1400 F3, bA g (b 4) 32 FO, iA g (b 5) 64 w1, iA g (b 6) 8 S1, iA g (b 7) 8 fs, iA g (b 8) 64 rt, lA g (b 9) 25 A1, lA g (b 10) 25 T1, lA g (b 11) 5 U1, iA g (b 12) 25 tn, bA g (b 23) 48 sd, bA g (b 30) 560 E, bA g (b 31) 112 N1] rfl ?_
                    refine j_st [.int (nI (16 * (bfr ht z + i))), .ref (b 31), .ref h] rfl ?_
                    refine j_callV2 hX 2 (c_end l g h b (upd v 3 (nI (((hl fm nn) + nn) + nn))) (((hl fm nn) + nn) + nn) F3 FO w1 S1 fs rt A1 T1 U1 tn (b 31) 112 N1 fm nn (16 * (bfr ht z + i)) rfl hv15 hv16 (by omega) hfs hrt htn (by omega) (by omega) (by omega) (by omega)) gX11_grow_X11_end (by decide +kernel) rfl ⟨rfl, rfl⟩ ⟨Nat.le_of_ble_eq_true rfl, Nat.le_of_ble_eq_true rfl⟩ 11 0 rfl rfl [0, 1, 2, 3, 4, 5, 6, 7, 8, 9, 10, 13] [11, 12] 14 rfl (by decide) (fun jj : (Nat → Int32) × (Nat → Int32) × (Nat → Int64) × (Nat → Int64) × (Nat → Int64) × Nat × (Nat → Int32) × (Nat → Int32) × (Nat → Int32) => [oB h 11 (mO b (upd v 3 (nI jj.2.2.2.2.2.1))), bA g (b 2) 1400 jj.2.2.2.2.2.2.1, bA g (b 4) 32 jj.2.2.2.2.2.2.2.1, iA g (b 5) 64 jj.1, iA g (b 6) 8 jj.2.1, iA g (b 7) 8 fs, iA g (b 8) 64 rt, lA g (b 9) 25 jj.2.2.1, lA g (b 10) 25 jj.2.2.2.1, lA g (b 11) 5 jj.2.2.2.2.1, iA g (b 12) 25 tn, bA g (b 23) 48 sd, bA g (b 30) 560 E, bA g (b 31) 112 jj.2.2.2.2.2.2.2.2]) (fun _ => rfl) (by decide) [h, (b 2), (b 4), (b 5), (b 6), (b 7), (b 8), (b 9), (b 10), (b 11), (b 12), (b 23), (b 30), (b 31)] rfl (fun _ => rfl) (fun _ => rfl) [bA g (b 23) 48 sd, bA g (b 30) 560 E] rfl (fun _ => rfl) rfl [] rfl (Nat.le_of_ble_eq_true rfl) ⟨Nat.le_refl _, Nat.le_refl _⟩ dX11_grow_122 ?_
                    rintro ⟨w7, S7, A7, T7, U7, nl7, G7, FO7, N7⟩ hE
                    try dsimp only at hE
                    refine j_w [oB h 11 (mO b (upd v 3 (nI nl7))), bA g (b 2) 1400 G7, bA g (b 4) 32 FO7, iA g (b 5) 64 w7, iA g (b 6) 8 S7, iA g (b 7) 8 fs, iA g (b 8) 64 rt, lA g (b 9) 25 A7, lA g (b 10) 25 T7, lA g (b 11) 5 U7, iA g (b 12) 25 tn, bA g (b 23) 48 sd, bA g (b 30) 560 E, bA g (b 31) 112 N7] rfl ?_
                    refine j_st [] rfl ?_
                    have hdl := hd_length (fm := fm) (n := nn) (by omega) sd ly tr 2 0 z i
                    rw [hF3, hF2, hF1, putL_app' (by first | (simp only [List.length_append, slice_length, hdl]; omega) | simp only [List.length_append, slice_length, hdl]), putL_app' (by first | (simp only [List.length_append, slice_length, hdl]; omega) | simp only [List.length_append, slice_length, hdl]), slice_put (by first | (simp only [List.length_append, slice_length, hdl]; omega) | simp only [List.length_append, slice_length, hdl]), nOK_get hOK (show z - 1 < z by omega) (show 2 * i < 2 ^ (ht - (z - 1)) by omega), nOK_get hOK (show z - 1 < z by omega) (show 2 * i + 1 < 2 ^ (ht - (z - 1)) by omega)] at hE
                    have hz1 : ND fm nn sd ly tr z i = TT fm nn sd ly tr 2 0 z i (ND fm nn sd ly tr (z - 1) (2 * i) ++ ND fm nn sd ly tr (z - 1) (2 * i + 1)) := by obtain ⟨y, rfl⟩ : ∃ y, z = y + 1 := ⟨z - 1, by omega⟩; rfl
                    have hE2 : N7 = putL N1 (16 * (bfr ht z + i)) (ND fm nn sd ly tr z i) := by rw [hz1]; exact hE.2
                    refine j_pc 125 rfl ?_
                    refine j_iincN hX i (i + 1) [(2, .int (nI (i + 1))), (0, .ref h), (1, .int (nI z))] 2 dX11_grow_125 rfl (nI_1 _) (by decide) rfl ?_
                    refine j_goto hX 45 dX11_grow_128 (by decide) ?_
                    refine j_perm [(0, .ref h), (1, .int (nI z)), (2, .int (nI (i + 1)))] [1, 2, 0] rfl ?_
                    exact ih_9 (i + 1) w7 S7 A7 T7 U7 nl7 G7 FO7 N7 (by omega) (by omega) hE.1 (by rw [hE.2]; exact putL_B hN1 (TT_B _ _ _ _ _ _ _ _ _ _)) (nOK_put hOK hnn (NG_length (by omega) _ _ _ _ _ (fun j => LF_length (by omega) _ _ _ _) _ _) rfl hE2)
              refine j_perm [(0, .ref h), (1, .int (nI z)), (2, .int (nI 0))] [1, 2, 0] rfl ?_
              exact lp_7 _ 0 w1 S1 A1 T1 U1 nl G FO N1 (Nat.lt_succ_self _) (Nat.zero_le _) (by omega) (by omega) (by omega)
        refine j_perm [(0, .ref h), (1, .int (nI 1))] [1, 0] rfl ?_
        exact lp_4 _ 1 w1 S1 A1 T1 U1 nl G FO N1 (Nat.lt_succ_self _) (by omega) (by omega) (by omega) (by omega) (nOK_next hOK (by rw [Nat.sub_zero]; omega))
      · skip
        have hc0 := bfr_cap (h := ht) (z := 0) (i := k) (Nat.zero_le _) (by rw [Nat.sub_zero]; omega)
        refine j_aload_n hX 0 dX11_grow_12 rfl ?_
        refine j_iload_n hX 1 dX11_grow_13 rfl ?_
        refine j_aload_n hX 0 dX11_grow_14 rfl ?_
        refine j_get hX in11 11 0 31 (v := .ref (b 31)) rfl rfl (by decide) (List.mem_of_getElem? (i := 2) rfl) rfl rfl dX11_grow_15 ?_
        refine j_aload_n hX 0 dX11_grow_18 rfl ?_
        refine j_iconst hX (0) dX11_grow_19 (by decide) ?_
        refine j_pc 20 rfl ?_
        refine j_iload_n hX 1 dX11_grow_20 rfl ?_
        refine j_callV2 hX 2 (c_nodeAt l g h b (upd v 3 (nI nl)) ht 0 k hv17 (by omega) (by omega)) gX11_grow_X11_nodeAt (by decide +kernel) rfl ⟨rfl, rfl⟩ ⟨Nat.le_of_ble_eq_true rfl, Nat.le_of_ble_eq_true rfl⟩ 11 0 rfl rfl [0] [1, 2, 3, 4, 5, 6, 7, 8, 9, 10, 11, 12, 13] 14 rfl (by decide) (fun jj : Unit => [oB h 11 (mO b (upd v 3 (nI nl))), bA g (b 2) 1400 G, bA g (b 4) 32 FO, iA g (b 5) 64 w1, iA g (b 6) 8 S1, iA g (b 7) 8 fs, iA g (b 8) 64 rt, lA g (b 9) 25 A1, lA g (b 10) 25 T1, lA g (b 11) 5 U1, iA g (b 12) 25 tn, bA g (b 23) 48 sd, bA g (b 30) 560 E, bA g (b 31) 112 N1]) (fun _ => rfl) (by decide) [h, (b 2), (b 4), (b 5), (b 6), (b 7), (b 8), (b 9), (b 10), (b 11), (b 12), (b 23), (b 30), (b 31)] rfl (fun _ => rfl) (fun _ => rfl) [bA g (b 2) 1400 G, bA g (b 4) 32 FO, iA g (b 5) 64 w1, iA g (b 6) 8 S1, iA g (b 7) 8 fs, iA g (b 8) 64 rt, lA g (b 9) 25 A1, lA g (b 10) 25 T1, lA g (b 11) 5 U1, iA g (b 12) 25 tn, bA g (b 23) 48 sd, bA g (b 30) 560 E, bA g (b 31) 112 N1] rfl (fun _ => rfl) rfl [.ref (b 31), .int (nI k), .ref h] rfl (Nat.le_of_ble_eq_true rfl) ⟨Nat.le_refl _, Nat.le_refl _⟩ dX11_grow_21 ?_
        intro _ hu_13
        refine j_w [oB h 11 (mO b (upd v 3 (nI nl))), bA g (b 2) 1400 G, bA g (b 4) 32 FO, iA g (b 5) 64 w1, iA g (b 6) 8 S1, iA g (b 7) 8 fs, iA g (b 8) 64 rt, lA g (b 9) 25 A1, lA g (b 10) 25 T1, lA g (b 11) 5 U1, iA g (b 12) 25 tn, bA g (b 23) 48 sd, bA g (b 30) 560 E, bA g (b 31) 112 N1] rfl ?_
        refine j_st [.int (nI (16 * (bfr ht 0 + k))), .ref (b 31), .int (nI k), .ref h] rfl ?_
        refine j_callV2 hX 3 (c_leafOf l g h b (upd v 3 (nI nl)) nl G FO w1 S1 fs rt A1 T1 U1 tn sd fm nn ly tr E (b 31) 112 N1 k (16 * (bfr ht 0 + k)) hv15 hv16 hv27 hv28 (by omega) (by omega) hB hfs hrt htn rfl (by omega) hv21 hE1 (by omega) (by omega) (by omega)) gX11_grow_X11_leafOf (by decide +kernel) rfl ⟨rfl, rfl⟩ ⟨Nat.le_of_ble_eq_true rfl, Nat.le_of_ble_eq_true rfl⟩ 11 0 rfl rfl [0, 1, 2, 3, 4, 5, 6, 7, 8, 9, 10, 11, 12, 13] [] 14 rfl (by decide) (fun jj : (Nat → Int32) × (Nat → Int32) × (Nat → Int64) × (Nat → Int64) × (Nat → Int64) × Nat × (Nat → Int32) × (Nat → Int32) × (Nat → Int32) × (Nat → Int32) => [oB h 11 (mO b (upd v 3 (nI jj.2.2.2.2.2.1))), bA g (b 2) 1400 jj.2.2.2.2.2.2.1, bA g (b 4) 32 jj.2.2.2.2.2.2.2.1, iA g (b 5) 64 jj.1, iA g (b 6) 8 jj.2.1, iA g (b 7) 8 fs, iA g (b 8) 64 rt, lA g (b 9) 25 jj.2.2.1, lA g (b 10) 25 jj.2.2.2.1, lA g (b 11) 5 jj.2.2.2.2.1, iA g (b 12) 25 tn, bA g (b 23) 48 sd, bA g (b 30) 560 jj.2.2.2.2.2.2.2.2.1, bA g (b 31) 112 jj.2.2.2.2.2.2.2.2.2]) (fun _ => rfl) (by decide) [h, (b 2), (b 4), (b 5), (b 6), (b 7), (b 8), (b 9), (b 10), (b 11), (b 12), (b 23), (b 30), (b 31)] rfl (fun _ => rfl) (fun _ => rfl) [] rfl (fun _ => rfl) rfl [] rfl (Nat.le_of_ble_eq_true rfl) ⟨Nat.le_refl _, Nat.le_refl _⟩ dX11_grow_24 ?_
        rintro ⟨w5, S5, A5, T5, U5, nl5, G5, FO5, E5, N5⟩ hL
        try dsimp only at hL
        refine j_w [oB h 11 (mO b (upd v 3 (nI nl5))), bA g (b 2) 1400 G5, bA g (b 4) 32 FO5, iA g (b 5) 64 w5, iA g (b 6) 8 S5, iA g (b 7) 8 fs, iA g (b 8) 64 rt, lA g (b 9) 25 A5, lA g (b 10) 25 T5, lA g (b 11) 5 U5, iA g (b 12) 25 tn, bA g (b 23) 48 sd, bA g (b 30) 560 E5, bA g (b 31) 112 N5] rfl ?_
        refine j_st [] rfl ?_
        refine j_iincN hX k (k + 1) [(1, .int (nI (k + 1))), (0, .ref h)] 1 dX11_grow_27 rfl (nI_1 _) (by decide) rfl ?_
        refine j_goto hX 2 dX11_grow_30 (by decide) ?_
        refine j_perm [(0, .ref h), (1, .int (nI (k + 1)))] [1, 0] rfl ?_
        exact ih_3 (k + 1) w5 S5 A5 T5 U5 nl5 G5 FO5 E5 N5 (by omega) (by omega) hL.1 hL.2.1 (by rw [hL.2.2]; exact putL_B hN1 (TT_B _ _ _ _ _ _ _ _ _ _)) (nOK_put hOK hnn (LF_length (by omega) _ _ _ _) rfl hL.2.2)
  refine j_perm [(0, .ref h), (1, .int (nI 0))] [1, 0] rfl ?_
  exact lp_1 _ 0 w0 S0 A0 T0 U0 n0 f dg e0 nd (Nat.lt_succ_self _) (Nat.zero_le _) (by omega) hEB hNB nOK_0

set_option maxHeartbeats 4000000 in
set_option maxRecDepth 100000 in
/-- the reference: growFew -/
theorem c_growFew (l : Launch) (g : jG) (h : Nat) (b : Nat → Nat) (v : Nat → Int32) (n0 : Nat) (f : Nat → Int32) (dg : Nat → Int32) (w0 : Nat → Int32) (S0 : Nat → Int32) (fs : Nat → Int32) (rt : Nat → Int32) (A0 : Nat → Int64) (T0 : Nat → Int64) (U0 : Nat → Int64) (tn : Nat → Int32) (sd : Nat → Int32) (fm : Nat) (nn : Nat) (ly : Nat) (tr : Nat) (fa : Nat) (pf : Nat → Int32) (nd : Nat → Int32) (u : Nat) (q : Nat) (hv15 : v 15 = nI fm) (hv16 : v 16 = nI nn) (hv27 : v 27 = nI ly) (hv28 : v 28 = nI tr) (hfm : fm < 2) (hnn : nn ≤ 16) (hB : isB sd) (hfs : ∀ j, j < 8 → fs j = s_first.getD j 0) (hrt : ∀ j, j < 64 → rt j = s_cube.getD j 0) (htn : ∀ k, k < 25 → tn k = s_turns.getD k 0) (hv3 : v 3 = nI n0) (hn0 : n0 ≤ 1400) (hv19 : v 19 = nI fa) (hfa : fa ≤ 4) (hPB : isB pf) (hNB : isB nd) (hq : q < 8) : jC l g yX11_growFew wsX11_growFew ({ frames := 6, cells := 0, slots := 0, locals := 146 } : Room) [.ref h, .int (nI u), .int (nI q)] [oB h 11 (mO b v), bA g (b 2) 1400 f, bA g (b 4) 32 dg, iA g (b 5) 64 w0, iA g (b 6) 8 S0, iA g (b 7) 8 fs, iA g (b 8) 64 rt, lA g (b 9) 25 A0, lA g (b 10) 25 T0, lA g (b 11) 5 U0, iA g (b 12) 25 tn, bA g (b 23) 48 sd, bA g (b 34) 32 pf, bA g (b 33) 496 nd] (fun jj : (Nat → Int32) × (Nat → Int32) × (Nat → Int64) × (Nat → Int64) × (Nat → Int64) × Nat × (Nat → Int32) × (Nat → Int32) × (Nat → Int32) × (Nat → Int32) => none) (fun jj : (Nat → Int32) × (Nat → Int32) × (Nat → Int64) × (Nat → Int64) × (Nat → Int64) × Nat × (Nat → Int32) × (Nat → Int32) × (Nat → Int32) × (Nat → Int32) => jj.2.2.2.2.2.1 ≤ 1400 ∧ isB jj.2.2.2.2.2.2.2.2.1 ∧ isB jj.2.2.2.2.2.2.2.2.2 ∧ ∀ z j, z ≤ fa → j < 2 ^ (fa - z) → slice jj.2.2.2.2.2.2.2.2.2 (16 * (bfr fa z + j)) nn = NG fm nn sd ly tr 3 u (FLF fm nn sd ly tr u) z (q * 2 ^ (fa - z) + j)) (fun jj : (Nat → Int32) × (Nat → Int32) × (Nat → Int64) × (Nat → Int64) × (Nat → Int64) × Nat × (Nat → Int32) × (Nat → Int32) × (Nat → Int32) × (Nat → Int32) => [oB h 11 (mO b (upd v 3 (nI jj.2.2.2.2.2.1))), bA g (b 2) 1400 jj.2.2.2.2.2.2.1, bA g (b 4) 32 jj.2.2.2.2.2.2.2.1, iA g (b 5) 64 jj.1, iA g (b 6) 8 jj.2.1, iA g (b 7) 8 fs, iA g (b 8) 64 rt, lA g (b 9) 25 jj.2.2.1, lA g (b 10) 25 jj.2.2.2.1, lA g (b 11) 5 jj.2.2.2.2.1, iA g (b 12) 25 tn, bA g (b 23) 48 sd, bA g (b 34) 32 jj.2.2.2.2.2.2.2.2.1, bA g (b 33) 496 jj.2.2.2.2.2.2.2.2.2]) := by
  refine jC.of (cc := cX11_growFew) (own := RX11) (maxL := 5) (ret := none) (by decide +kernel) rfl rfl (Nat.le_of_ble_eq_true rfl) (fun u hu => rfl) ?_
  intro p e s m below meth c A Q hX hret
  have in11 : ∀ w ∈ wsX110, w ∈ wsX11_growFew := (fun w h => List.mem_cons_of_mem _ (List.mem_append_right _ h))
  have hh := hl_le (fm := fm) hnn
  have hp16 := pow_le16 hfa
  have hpp := Nat.two_pow_pos fa
  refine j_w [oB h 11 (mO b (upd v 3 (nI n0))), bA g (b 2) 1400 f, bA g (b 4) 32 dg, iA g (b 5) 64 w0, iA g (b 6) 8 S0, iA g (b 7) 8 fs, iA g (b 8) 64 rt, lA g (b 9) 25 A0, lA g (b 10) 25 T0, lA g (b 11) 5 U0, iA g (b 12) 25 tn, bA g (b 23) 48 sd, bA g (b 34) 32 pf, bA g (b 33) 496 nd] (by rw [updS (hv3 : (v : Nat → Int32) 3 = nI n0)]) ?_
  refine j_iconst hX (0) dX11_growFew_0 (by decide) ?_
  refine j_st [.int (nI 0)] rfl ?_
  refine j_istore_n hX 3 [(3, .int (nI 0)), (0, .ref h), (1, .int (nI u)), (2, .int (nI q))] dX11_growFew_1 rfl (by decide) rfl ?_
  have lp_1 : ∀ (n_2 : Nat) (k : Nat) (w1 : Nat → Int32) (S1 : Nat → Int32) (A1 : Nat → Int64) (T1 : Nat → Int64) (U1 : Nat → Int64) (nl : Nat) (G : Nat → Int32) (FO : Nat → Int32) (P1 : Nat → Int32) (N1 : Nat → Int32), (2 ^ fa - k < n_2) → (k ≤ 2 ^ fa) → (nl ≤ 1400) → (isB P1) → (isB N1) → (nOK N1 fa nn (fun z j => NG fm nn sd ly tr 3 u (FLF fm nn sd ly tr u) z (q * 2 ^ (fa - z) + j)) 0 k) → J p l e ({ frames := 6, cells := 0, slots := 0, locals := 146 } : Room) s m ([.ref h, .int (nI u), .int (nI q)] : List Value).toArray below meth c g A 5 Q 0 0 [oB h 11 (mO b (upd v 3 (nI nl))), bA g (b 2) 1400 G, bA g (b 4) 32 FO, iA g (b 5) 64 w1, iA g (b 6) 8 S1, iA g (b 7) 8 fs, iA g (b 8) 64 rt, lA g (b 9) 25 A1, lA g (b 10) 25 T1, lA g (b 11) 5 U1, iA g (b 12) 25 tn, bA g (b 23) 48 sd, bA g (b 34) 32 P1, bA g (b 33) 496 N1] [(0, .ref h), (1, .int (nI u)), (2, .int (nI q)), (3, .int (nI k))] 2 [] := by
    intro n_2
    induction n_2 with
    | zero => intro k w1 S1 A1 T1 U1 nl G FO P1 N1 hm; exact absurd hm (Nat.not_lt_zero _)
    | succ n_2 ih_3 =>
      intro k w1 S1 A1 T1 U1 nl G FO P1 N1 hm hk hnl hP1 hN1 hOK
      refine j_iload_n hX 3 dX11_growFew_2 rfl ?_
      refine j_iconst hX (1) dX11_growFew_3 (by decide) ?_
      refine j_aload_n hX 0 dX11_growFew_4 rfl ?_
      refine j_gete hX (nI fa) in11 11 0 19 rfl rfl (by decide) (List.mem_of_getElem? (i := 1) rfl) rfl rfl hv19 dX11_growFew_5 ?_
      refine j_ishlN hX 1 fa (by omega) (by omega) dX11_growFew_8 ?_
      refine j_pc 9 rfl ?_
      refine j_icmp_geN hX k (1 * 2 ^ fa) 79 dX11_growFew_9 (by decide) (by omega) (by omega) (fun b_9 => ?_) (fun b_9 => ?_)
      · skip
        refine j_iconst hX (1) dX11_growFew_79 (by decide) ?_
        refine j_st [.int (nI 1)] rfl ?_
        refine j_istore_n hX 3 [(3, .int (nI 1)), (0, .ref h), (1, .int (nI u)), (2, .int (nI q))] dX11_growFew_80 rfl (by decide) rfl ?_
        have lp_4 : ∀ (n_5 : Nat) (z : Nat) (w1 : Nat → Int32) (S1 : Nat → Int32) (A1 : Nat → Int64) (T1 : Nat → Int64) (U1 : Nat → Int64) (nl : Nat) (G : Nat → Int32) (FO : Nat → Int32) (N1 : Nat → Int32), (fa + 1 - z < n_5) → (1 ≤ z) → (z ≤ fa + 1) → (nl ≤ 1400) → (isB N1) → (nOK N1 fa nn (fun z j => NG fm nn sd ly tr 3 u (FLF fm nn sd ly tr u) z (q * 2 ^ (fa - z) + j)) z 0) → J p l e ({ frames := 6, cells := 0, slots := 0, locals := 146 } : Room) s m ([.ref h, .int (nI u), .int (nI q)] : List Value).toArray below meth c g A 5 Q 0 0 [oB h 11 (mO b (upd v 3 (nI nl))), bA g (b 2) 1400 G, bA g (b 4) 32 FO, iA g (b 5) 64 w1, iA g (b 6) 8 S1, iA g (b 7) 8 fs, iA g (b 8) 64 rt, lA g (b 9) 25 A1, lA g (b 10) 25 T1, lA g (b 11) 5 U1, iA g (b 12) 25 tn, bA g (b 23) 48 sd, bA g (b 34) 32 P1, bA g (b 33) 496 N1] [(0, .ref h), (1, .int (nI u)), (2, .int (nI q)), (3, .int (nI z))] 81 [] := by
          intro n_5
          induction n_5 with
          | zero => intro z w1 S1 A1 T1 U1 nl G FO N1 hm; exact absurd hm (Nat.not_lt_zero _)
          | succ n_5 ih_6 =>
            intro z w1 S1 A1 T1 U1 nl G FO N1 hm hz1 hz2 hnl hN1 hOK
            refine j_iload_n hX 3 dX11_growFew_81 rfl ?_
            refine j_aload_n hX 0 dX11_growFew_82 rfl ?_
            refine j_gete hX (nI fa) in11 11 0 19 rfl rfl (by decide) (List.mem_of_getElem? (i := 1) rfl) rfl rfl hv19 dX11_growFew_83 ?_
            refine j_icmp_gtN hX z fa 198 dX11_growFew_86 (by decide) (by omega) (by omega) (fun b_86 => ?_) (fun b_86 => ?_)
            · skip
              exact hret (w1, S1, A1, T1, U1, nl, G, FO, P1, N1) (by dsimp only; exact ⟨hnl, hP1, hN1, fun z2 i2 h1 h2 => hOK z2 i2 (Or.inl ⟨by omega, h2⟩)⟩) 198 _ .return_ dX11_growFew_198 rfl
            · skip
              have hzh : z ≤ fa := by omega
              have hwd := pow_half (h := fa) (z := z - 1) (by omega)
              rw [show z - 1 + 1 = z by omega] at hwd
              have hw4 : 2 ^ (fa - z) ≤ 16 := pow_le16 (by omega)
              refine j_pc 89 rfl ?_
              refine j_iconst hX (0) dX11_growFew_89 (by decide) ?_
              refine j_st [.int (nI 0)] rfl ?_
              refine j_istore hX [(4, .int (nI 0)), (0, .ref h), (1, .int (nI u)), (2, .int (nI q)), (3, .int (nI z))] dX11_growFew_90 (by decide) rfl ?_
              have lp_7 : ∀ (n_8 : Nat) (i : Nat) (w1 : Nat → Int32) (S1 : Nat → Int32) (A1 : Nat → Int64) (T1 : Nat → Int64) (U1 : Nat → Int64) (nl : Nat) (G : Nat → Int32) (FO : Nat → Int32) (N1 : Nat → Int32), (2 ^ (fa - z) - i < n_8) → (i ≤ 2 ^ (fa - z)) → (nl ≤ 1400) → (isB N1) → (nOK N1 fa nn (fun z j => NG fm nn sd ly tr 3 u (FLF fm nn sd ly tr u) z (q * 2 ^ (fa - z) + j)) z i) → J p l e ({ frames := 6, cells := 0, slots := 0, locals := 146 } : Room) s m ([.ref h, .int (nI u), .int (nI q)] : List Value).toArray below meth c g A 5 Q 0 0 [oB h 11 (mO b (upd v 3 (nI nl))), bA g (b 2) 1400 G, bA g (b 4) 32 FO, iA g (b 5) 64 w1, iA g (b 6) 8 S1, iA g (b 7) 8 fs, iA g (b 8) 64 rt, lA g (b 9) 25 A1, lA g (b 10) 25 T1, lA g (b 11) 5 U1, iA g (b 12) 25 tn, bA g (b 23) 48 sd, bA g (b 34) 32 P1, bA g (b 33) 496 N1] [(0, .ref h), (1, .int (nI u)), (2, .int (nI q)), (3, .int (nI z)), (4, .int (nI i))] 92 [] := by
                intro n_8
                induction n_8 with
                | zero => intro i w1 S1 A1 T1 U1 nl G FO N1 hm; exact absurd hm (Nat.not_lt_zero _)
                | succ n_8 ih_9 =>
                  intro i w1 S1 A1 T1 U1 nl G FO N1 hm hi hnl hN1 hOK
                  refine j_iload hX 4 dX11_growFew_92 rfl ?_
                  refine j_iconst hX (1) dX11_growFew_94 (by decide) ?_
                  refine j_aload_n hX 0 dX11_growFew_95 rfl ?_
                  refine j_gete hX (nI fa) in11 11 0 19 rfl rfl (by decide) (List.mem_of_getElem? (i := 1) rfl) rfl rfl hv19 dX11_growFew_96 ?_
                  refine j_iload_n hX 3 dX11_growFew_99 rfl ?_
                  refine j_isubN hX fa z (by omega) dX11_growFew_100 ?_
                  refine j_pc 101 rfl ?_
                  refine j_ishlN hX 1 (fa - z) (by omega) (by omega) dX11_growFew_101 ?_
                  refine j_icmp_geN hX i (1 * 2 ^ (fa - z)) 192 dX11_growFew_102 (by decide) (by omega) (by omega) (fun b_102 => ?_) (fun b_102 => ?_)
                  · skip
                    refine j_iincN hX z (z + 1) [(3, .int (nI (z + 1))), (0, .ref h), (1, .int (nI u)), (2, .int (nI q)), (4, .int (nI i))] 3 dX11_growFew_192 rfl (nI_1 _) (by decide) rfl ?_
                    refine j_goto hX 81 dX11_growFew_195 (by decide) ?_
                    refine j_perm [(0, .ref h), (1, .int (nI u)), (2, .int (nI q)), (3, .int (nI (z + 1)))] [1, 2, 3, 0] rfl ?_
                    exact ih_6 (z + 1) w1 S1 A1 T1 U1 nl G FO N1 (by omega) (by omega) (by omega) (by omega) (by omega) (nOK_next hOK (by omega))
                  · skip
                    have hil : i < 2 ^ (fa - z) := by omega
                    have hc1 := bfr_cap (h := fa) (z := z) (i := i) hzh hil
                    have hc2 := bfr_cap (h := fa) (z := z - 1) (i := 2 * i) (by omega) (by omega)
                    have hc3 := bfr_cap (h := fa) (z := z - 1) (i := 2 * i + 1) (by omega) (by omega)
                    refine j_aload_n hX 0 dX11_growFew_105 rfl ?_
                    refine j_iconst hX (3) dX11_growFew_106 (by decide) ?_
                    refine j_iload_n hX 1 dX11_growFew_107 rfl ?_
                    refine j_iload_n hX 3 dX11_growFew_108 rfl ?_
                    refine j_pc 109 rfl ?_
                    refine j_iload_n hX 2 dX11_growFew_109 rfl ?_
                    refine j_aload_n hX 0 dX11_growFew_110 rfl ?_
                    refine j_gete hX (nI fa) in11 11 0 19 rfl rfl (by decide) (List.mem_of_getElem? (i := 1) rfl) rfl rfl hv19 dX11_growFew_111 ?_
                    refine j_iload_n hX 3 dX11_growFew_114 rfl ?_
                    refine j_isubN hX fa z (by omega) dX11_growFew_115 ?_
                    refine j_ishlN hX q (fa - z) (by omega) (by have h9 := Nat.mul_le_mul (show q ≤ 8 by omega) hw4; omega) dX11_growFew_116 ?_
                    refine j_iload hX 4 dX11_growFew_117 rfl ?_
                    refine j_iaddN hX (q * 2 ^ (fa - z)) i dX11_growFew_119 ?_
                    refine j_pc 120 rfl ?_
                    refine j_callV2 hX 4 (c_begin l g h b (upd v 3 (nI nl)) G sd fm nn ly tr 3 u z ((q * 2 ^ (fa - z)) + i) hv15 hv16 hv27 hv28 (by omega) (by omega) hB) gX11_growFew_X11_begin (by decide +kernel) rfl ⟨rfl, rfl⟩ ⟨Nat.le_of_ble_eq_true rfl, Nat.le_of_ble_eq_true rfl⟩ 11 0 rfl rfl [0, 1, 11] [2, 3, 4, 5, 6, 7, 8, 9, 10, 12, 13] 14 rfl (by decide) (fun jj : (Nat → Int32) => [oB h 11 (mO b (upd v 3 (nI (hl fm nn)))), bA g (b 2) 1400 jj, bA g (b 4) 32 FO, iA g (b 5) 64 w1, iA g (b 6) 8 S1, iA g (b 7) 8 fs, iA g (b 8) 64 rt, lA g (b 9) 25 A1, lA g (b 10) 25 T1, lA g (b 11) 5 U1, iA g (b 12) 25 tn, bA g (b 23) 48 sd, bA g (b 34) 32 P1, bA g (b 33) 496 N1]) (fun _ => rfl) (by decide) [h, (b 2), (b 4), (b 5), (b 6), (b 7), (b 8), (b 9), (b 10), (b 11), (b 12), (b 23), (b 34), (b 33)] rfl (fun _ => rfl) (fun _ => rfl) [bA g (b 4) 32 FO, iA g (b 5) 64 w1, iA g (b 6) 8 S1, iA g (b 7) 8 fs, iA g (b 8) 64 rt, lA g (b 9) 25 A1, lA g (b 10) 25 T1, lA g (b 11) 5 U1, iA g (b 12) 25 tn, bA g (b 34) 32 P1, bA g (b 33) 496 N1] rfl (fun _ => rfl) rfl [] rfl (Nat.le_of_ble_eq_true rfl) ⟨Nat.le_refl _, Nat.le_refl _⟩ dX11_growFew_120 ?_
                    intro F1 hF1
                    try dsimp only at hF1
                    refine j_w [oB h 11 (mO b (upd v 3 (nI (hl fm nn)))), bA g (b 2) 1400 F1, bA g (b 4) 32 FO, iA g (b 5) 64 w1, iA g (b 6) 8 S1, iA g (b 7) 8 fs, iA g (b 8) 64 rt, lA g (b 9) 25 A1, lA g (b 10) 25 T1, lA g (b 11) 5 U1, iA g (b 12) 25 tn, bA g (b 23) 48 sd, bA g (b 34) 32 P1, bA g (b 33) 496 N1] rfl ?_
                    refine j_st [] rfl ?_
                    refine j_aload_n hX 0 dX11_growFew_123 rfl ?_
                    refine j_aload_n hX 0 dX11_growFew_124 rfl ?_
                    refine j_get hX in11 11 0 33 (v := .ref (b 33)) rfl rfl (by decide) (List.mem_of_getElem? (i := 4) rfl) rfl rfl dX11_growFew_125 ?_
                    refine j_aload_n hX 0 dX11_growFew_128 rfl ?_
                    refine j_iload_n hX 3 dX11_growFew_129 rfl ?_
                    refine j_iconst hX (1) dX11_growFew_130 (by decide) ?_
                    refine j_isubN hX z 1 (by omega) dX11_growFew_131 ?_
                    refine j_pc 132 rfl ?_
                    refine j_iconst hX (2) dX11_growFew_132 (by decide) ?_
                    refine j_iload hX 4 dX11_growFew_133 rfl ?_
                    refine j_imulN hX 2 i dX11_growFew_135 ?_
                    refine j_callV2 hX 2 (c_fewAt l g h b (upd v 3 (nI (hl fm nn))) fa (z - 1) (2 * i) hv19 (by omega) (by omega)) gX11_growFew_X11_fewAt (by decide +kernel) rfl ⟨rfl, rfl⟩ ⟨Nat.le_of_ble_eq_true rfl, Nat.le_of_ble_eq_true rfl⟩ 11 0 rfl rfl [0] [1, 2, 3, 4, 5, 6, 7, 8, 9, 10, 11, 12, 13] 14 rfl (by decide) (fun jj : Unit => [oB h 11 (mO b (upd v 3 (nI (hl fm nn)))), bA g (b 2) 1400 F1, bA g (b 4) 32 FO, iA g (b 5) 64 w1, iA g (b 6) 8 S1, iA g (b 7) 8 fs, iA g (b 8) 64 rt, lA g (b 9) 25 A1, lA g (b 10) 25 T1, lA g (b 11) 5 U1, iA g (b 12) 25 tn, bA g (b 23) 48 sd, bA g (b 34) 32 P1, bA g (b 33) 496 N1]) (fun _ => rfl) (by decide) [h, (b 2), (b 4), (b 5), (b 6), (b 7), (b 8), (b 9), (b 10), (b 11), (b 12), (b 23), (b 34), (b 33)] rfl (fun _ => rfl) (fun _ => rfl) [bA g (b 2) 1400 F1, bA g (b 4) 32 FO, iA g (b 5) 64 w1, iA g (b 6) 8 S1, iA g (b 7) 8 fs, iA g (b 8) 64 rt, lA g (b 9) 25 A1, lA g (b 10) 25 T1, lA g (b 11) 5 U1, iA g (b 12) 25 tn, bA g (b 23) 48 sd, bA g (b 34) 32 P1, bA g (b 33) 496 N1] rfl (fun _ => rfl) rfl [.ref (b 33), .ref h] rfl (Nat.le_of_ble_eq_true rfl) ⟨Nat.le_refl _, Nat.le_refl _⟩ dX11_growFew_136 ?_
                    intro _ hu_10
                    refine j_w [oB h 11 (mO b (upd v 3 (nI (hl fm nn)))), bA g (b 2) 1400 F1, bA g (b 4) 32 FO, iA g (b 5) 64 w1, iA g (b 6) 8 S1, iA g (b 7) 8 fs, iA g (b 8) 64 rt, lA g (b 9) 25 A1, lA g (b 10) 25 T1, lA g (b 11) 5 U1, iA g (b 12) 25 tn, bA g (b 23) 48 sd, bA g (b 34) 32 P1, bA g (b 33) 496 N1] rfl ?_
                    refine j_st [.int (nI (16 * (bfr fa (z - 1) + (2 * i)))), .ref (b 33), .ref h] rfl ?_
                    refine j_aload_n hX 0 dX11_growFew_139 rfl ?_
                    refine j_gete hX (nI nn) in11 11 0 16 rfl rfl (by decide) (List.mem_of_getElem? (i := 3) rfl) rfl rfl hv16 dX11_growFew_140 ?_
                    refine j_callV2 hX 3 (c_layRow l g h b (upd v 3 (nI (hl fm nn))) (hl fm nn) F1 (b 33) 496 N1 (16 * (bfr fa (z - 1) + (2 * i))) nn rfl (by omega) (by omega) (by omega) hN1) gX11_growFew_X11_layRow (by decide +kernel) rfl ⟨rfl, rfl⟩ ⟨Nat.le_of_ble_eq_true rfl, Nat.le_of_ble_eq_true rfl⟩ 11 0 rfl rfl [0, 1, 13] [2, 3, 4, 5, 6, 7, 8, 9, 10, 11, 12] 14 rfl (by decide) (fun jj : (Nat → Int32) => [oB h 11 (mO b (upd v 3 (nI ((hl fm nn) + nn)))), bA g (b 2) 1400 jj, bA g (b 4) 32 FO, iA g (b 5) 64 w1, iA g (b 6) 8 S1, iA g (b 7) 8 fs, iA g (b 8) 64 rt, lA g (b 9) 25 A1, lA g (b 10) 25 T1, lA g (b 11) 5 U1, iA g (b 12) 25 tn, bA g (b 23) 48 sd, bA g (b 34) 32 P1, bA g (b 33) 496 N1]) (fun _ => rfl) (by decide) [h, (b 2), (b 4), (b 5), (b 6), (b 7), (b 8), (b 9), (b 10), (b 11), (b 12), (b 23), (b 34), (b 33)] rfl (fun _ => rfl) (fun _ => rfl) [bA g (b 4) 32 FO, iA g (b 5) 64 w1, iA g (b 6) 8 S1, iA g (b 7) 8 fs, iA g (b 8) 64 rt, lA g (b 9) 25 A1, lA g (b 10) 25 T1, lA g (b 11) 5 U1, iA g (b 12) 25 tn, bA g (b 23) 48 sd, bA g (b 34) 32 P1] rfl (fun _ => rfl) rfl [] rfl (Nat.le_of_ble_eq_true rfl) ⟨Nat.le_refl _, Nat.le_refl _⟩ dX11_growFew_143 ?_
                    intro F2 hF2
                    try dsimp only at hF2
                    refine j_w [oB h 11 (mO b (upd v 3 (nI ((hl fm nn) + nn)))), bA g (b 2) 1400 F2, bA g (b 4) 32 FO, iA g (b 5) 64 w1, iA g (b 6) 8 S1, iA g (b 7) 8 fs, iA g (b 8) 64 rt, lA g (b 9) 25 A1, lA g (b 10) 25 T1, lA g (b 11) 5 U1, iA g (b 12) 25 tn, bA g (b 23) 48 sd, bA g (b 34) 32 P1, bA g (b 33) 496 N1] rfl ?_
                    refine j_st [] rfl ?_
                    refine j_aload_n hX 0 dX11_growFew_146 rfl ?_
                    refine j_pc 147 rfl ?_
                    refine j_aload_n hX 0 dX11_growFew_147 rfl ?_
                    refine j_get hX in11 11 0 33 (v := .ref (b 33)) rfl rfl (by decide) (List.mem_of_getElem? (i := 4) rfl) rfl rfl dX11_growFew_148 ?_
                    refine j_aload_n hX 0 dX11_growFew_151 rfl ?_
                    refine j_iload_n hX 3 dX11_growFew_152 rfl ?_
                    refine j_iconst hX (1) dX11_growFew_153 (by decide) ?_
                    refine j_isubN hX z 1 (by omega) dX11_growFew_154 ?_
                    refine j_iconst hX (2) dX11_growFew_155 (by decide) ?_
                    refine j_iload hX 4 dX11_growFew_156 rfl ?_
                    refine j_pc 158 rfl ?_
                    refine j_imulN hX 2 i dX11_growFew_158 ?_
                    refine j_iconst hX (1) dX11_growFew_159 (by decide) ?_
                    refine j_iaddN hX (2 * i) 1 dX11_growFew_160 ?_
                    refine j_callV2 hX 2 (c_fewAt l g h b (upd v 3 (nI ((hl fm nn) + nn))) fa (z - 1) ((2 * i) + 1) hv19 (by omega) (by omega)) gX11_growFew_X11_fewAt (by decide +kernel) rfl ⟨rfl, rfl⟩ ⟨Nat.le_of_ble_eq_true rfl, Nat.le_of_ble_eq_true rfl⟩ 11 0 rfl rfl [0] [1, 2, 3, 4, 5, 6, 7, 8, 9, 10, 11, 12, 13] 14 rfl (by decide) (fun jj : Unit => [oB h 11 (mO b (upd v 3 (nI ((hl fm nn) + nn)))), bA g (b 2) 1400 F2, bA g (b 4) 32 FO, iA g (b 5) 64 w1, iA g (b 6) 8 S1, iA g (b 7) 8 fs, iA g (b 8) 64 rt, lA g (b 9) 25 A1, lA g (b 10) 25 T1, lA g (b 11) 5 U1, iA g (b 12) 25 tn, bA g (b 23) 48 sd, bA g (b 34) 32 P1, bA g (b 33) 496 N1]) (fun _ => rfl) (by decide) [h, (b 2), (b 4), (b 5), (b 6), (b 7), (b 8), (b 9), (b 10), (b 11), (b 12), (b 23), (b 34), (b 33)] rfl (fun _ => rfl) (fun _ => rfl) [bA g (b 2) 1400 F2, bA g (b 4) 32 FO, iA g (b 5) 64 w1, iA g (b 6) 8 S1, iA g (b 7) 8 fs, iA g (b 8) 64 rt, lA g (b 9) 25 A1, lA g (b 10) 25 T1, lA g (b 11) 5 U1, iA g (b 12) 25 tn, bA g (b 23) 48 sd, bA g (b 34) 32 P1, bA g (b 33) 496 N1] rfl (fun _ => rfl) rfl [.ref (b 33), .ref h] rfl (Nat.le_of_ble_eq_true rfl) ⟨Nat.le_refl _, Nat.le_refl _⟩ dX11_growFew_161 ?_
                    intro _ hu_11
                    refine j_w [oB h 11 (mO b (upd v 3 (nI ((hl fm nn) + nn)))), bA g (b 2) 1400 F2, bA g (b 4) 32 FO, iA g (b 5) 64 w1, iA g (b 6) 8 S1, iA g (b 7) 8 fs, iA g (b 8) 64 rt, lA g (b 9) 25 A1, lA g (b 10) 25 T1, lA g (b 11) 5 U1, iA g (b 12) 25 tn, bA g (b 23) 48 sd, bA g (b 34) 32 P1, bA g (b 33) 496 N1] rfl ?_
                    refine j_st [.int (nI (16 * (bfr fa (z - 1) + ((2 * i) + 1)))), .ref (b 33), .ref h] rfl ?_
                    refine j_aload_n hX 0 dX11_growFew_164 rfl ?_
                    refine j_gete hX (nI nn) in11 11 0 16 rfl rfl (by decide) (List.mem_of_getElem? (i := 3) rfl) rfl rfl hv16 dX11_growFew_165 ?_
                    refine j_callV2 hX 3 (c_layRow l g h b (upd v 3 (nI ((hl fm nn) + nn))) ((hl fm nn) + nn) F2 (b 33) 496 N1 (16 * (bfr fa (z - 1) + ((2 * i) + 1))) nn rfl (by omega) (by omega) (by omega) hN1) gX11_growFew_X11_layRow (by decide +kernel) rfl ⟨rfl, rfl⟩ ⟨Nat.le_of_ble_eq_true rfl, Nat.le_of_ble_eq_true rfl⟩ 11 0 rfl rfl [0, 1, 13] [2, 3, 4, 5, 6, 7, 8, 9, 10, 11, 12] 14 rfl (by decide) (fun jj : (Nat → Int32) => [oB h 11 (mO b (upd v 3 (nI (((hl fm nn) + nn) + nn)))), bA g (b 2) 1400 jj, bA g (b 4) 32 FO, iA g (b 5) 64 w1, iA g (b 6) 8 S1, iA g (b 7) 8 fs, iA g (b 8) 64 rt, lA g (b 9) 25 A1, lA g (b 10) 25 T1, lA g (b 11) 5 U1, iA g (b 12) 25 tn, bA g (b 23) 48 sd, bA g (b 34) 32 P1, bA g (b 33) 496 N1]) (fun _ => rfl) (by decide) [h, (b 2), (b 4), (b 5), (b 6), (b 7), (b 8), (b 9), (b 10), (b 11), (b 12), (b 23), (b 34), (b 33)] rfl (fun _ => rfl) (fun _ => rfl) [bA g (b 4) 32 FO, iA g (b 5) 64 w1, iA g (b 6) 8 S1, iA g (b 7) 8 fs, iA g (b 8) 64 rt, lA g (b 9) 25 A1, lA g (b 10) 25 T1, lA g (b 11) 5 U1, iA g (b 12) 25 tn, bA g (b 23) 48 sd, bA g (b 34) 32 P1] rfl (fun _ => rfl) rfl [] rfl (Nat.le_of_ble_eq_true rfl) ⟨Nat.le_refl _, Nat.le_refl _⟩ dX11_growFew_168 ?_
                    intro F3 hF3
                    try dsimp only at hF3
                    refine j_w [oB h 11 (mO b (upd v 3 (nI (((hl fm nn) + nn) + nn)))), bA g (b 2) 1400 F3, bA g (b 4) 32 FO, iA g (b 5) 64 w1, iA g (b 6) 8 S1, iA g (b 7) 8 fs, iA g (b 8) 64 rt, lA g (b 9) 25 A1, lA g (b 10) 25 T1, lA g (b 11) 5 U1, iA g (b 12) 25 tn, bA g (b 23) 48 sd, bA g (b 34) 32 P1, bA g (b 33) 496 N1] rfl ?_
                    refine j_st [] rfl ?_
                    refine j_aload_n hX 0 dX11_growFew_171 rfl ?_
                    refine j_pc 172 rfl ?_
                    refine j_aload_n hX 0 dX11_growFew_172 rfl ?_
                    refine j_get hX in11 11 0 33 (v := .ref (b 33)) rfl rfl (by decide) (List.mem_of_getElem? (i := 4) rfl) rfl rfl dX11_growFew_173 ?_
                    refine j_aload_n hX 0 dX11_growFew_176 rfl ?_
                    refine j_iload_n hX 3 dX11_growFew_177 rfl ?_
                    refine j_iload hX 4 dX11_growFew_178 rfl ?_
                    refine j_callV2 hX 2 (c_fewAt l g h b (upd v 3 (nI (((hl fm nn) + nn) + nn))) fa z i hv19 (by omega) (by omega)) gX11_growFew_X11_fewAt (by decide +kernel) rfl ⟨rfl, rfl⟩ ⟨Nat.le_of_ble_eq_true rfl, Nat.le_of_ble_eq_true rfl⟩ 11 0 rfl rfl [0] [1, 2, 3, 4, 5, 6, 7, 8, 9, 10, 11, 12, 13] 14 rfl (by decide) (fun jj : Unit => [oB h 11 (mO b (upd v 3 (nI (((hl fm nn) + nn) + nn)))), bA g (b 2) 1400 F3, bA g (b 4) 32 FO, iA g (b 5) 64 w1, iA g (b 6) 8 S1, iA g (b 7) 8 fs, iA g (b 8) 64 rt, lA g (b 9) 25 A1, lA g (b 10) 25 T1, lA g (b 11) 5 U1, iA g (b 12) 25 tn, bA g (b 23) 48 sd, bA g (b 34) 32 P1, bA g (b 33) 496 N1]) (fun _ => rfl) (by decide) [h, (b 2), (b 4), (b 5), (b 6), (b 7), (b 8), (b 9), (b 10), (b 11), (b 12), (b 23), (b 34), (b 33)] rfl (fun _ => rfl) (fun _ => rfl) [bA g (b 2) 1400 F3, bA g (b 4) 32 FO, iA g (b 5) 64 w1, iA g (b 6) 8 S1, iA g (b 7) 8 fs, iA g (b 8) 64 rt, lA g (b 9) 25 A1, lA g (b 10) 25 T1, lA g (b 11) 5 U1, iA g (b 12) 25 tn, bA g (b 23) 48 sd, bA g (b 34) 32 P1, bA g (b 33) 496 N1] rfl (fun _ => rfl) rfl [.ref (b 33), .ref h] rfl (Nat.le_of_ble_eq_true rfl) ⟨Nat.le_refl _, Nat.le_refl _⟩ dX11_growFew_180 ?_
                    intro _ hu_12
                    refine j_w [oB h 11 (mO b (upd v 3 (nI (((hl fm nn) + nn) + nn)))), bA g (b 2) 1400 F3, bA g (b 4) 32 FO, iA g (b 5) 64 w1, iA g (b 6) 8 S1, iA g (b 7) 8 fs, iA g (b 8) 64 rt, lA g (b 9) 25 A1, lA g (b 10) 25 T1, lA g (b 11) 5 U1, iA g (b 12) 25 tn, bA g (b 23) 48 sd, bA g (b 34) 32 P1, bA g (b 33) 496 N1] rfl ?_
                    refine j_st [.int (nI (16 * (bfr fa z + i))), .ref (b 33), .ref h] rfl ?_
                    refine j_callV2 hX 2 (c_end l g h b (upd v 3 (nI (((hl fm nn) + nn) + nn))) (((hl fm nn) + nn) + nn) F3 FO w1 S1 fs rt A1 T1 U1 tn (b 33) 496 N1 fm nn (16 * (bfr fa z + i)) rfl hv15 hv16 (by omega) hfs hrt htn (by omega) (by omega) (by omega) (by omega)) gX11_growFew_X11_end (by decide +kernel) rfl ⟨rfl, rfl⟩ ⟨Nat.le_of_ble_eq_true rfl, Nat.le_of_ble_eq_true rfl⟩ 11 0 rfl rfl [0, 1, 2, 3, 4, 5, 6, 7, 8, 9, 10, 13] [11, 12] 14 rfl (by decide) (fun jj : (Nat → Int32) × (Nat → Int32) × (Nat → Int64) × (Nat → Int64) × (Nat → Int64) × Nat × (Nat → Int32) × (Nat → Int32) × (Nat → Int32) => [oB h 11 (mO b (upd v 3 (nI jj.2.2.2.2.2.1))), bA g (b 2) 1400 jj.2.2.2.2.2.2.1, bA g (b 4) 32 jj.2.2.2.2.2.2.2.1, iA g (b 5) 64 jj.1, iA g (b 6) 8 jj.2.1, iA g (b 7) 8 fs, iA g (b 8) 64 rt, lA g (b 9) 25 jj.2.2.1, lA g (b 10) 25 jj.2.2.2.1, lA g (b 11) 5 jj.2.2.2.2.1, iA g (b 12) 25 tn, bA g (b 23) 48 sd, bA g (b 34) 32 P1, bA g (b 33) 496 jj.2.2.2.2.2.2.2.2]) (fun _ => rfl) (by decide) [h, (b 2), (b 4), (b 5), (b 6), (b 7), (b 8), (b 9), (b 10), (b 11), (b 12), (b 23), (b 34), (b 33)] rfl (fun _ => rfl) (fun _ => rfl) [bA g (b 23) 48 sd, bA g (b 34) 32 P1] rfl (fun _ => rfl) rfl [] rfl (Nat.le_of_ble_eq_true rfl) ⟨Nat.le_refl _, Nat.le_refl _⟩ dX11_growFew_183 ?_
                    rintro ⟨w7, S7, A7, T7, U7, nl7, G7, FO7, N7⟩ hE
                    try dsimp only at hE
                    refine j_w [oB h 11 (mO b (upd v 3 (nI nl7))), bA g (b 2) 1400 G7, bA g (b 4) 32 FO7, iA g (b 5) 64 w7, iA g (b 6) 8 S7, iA g (b 7) 8 fs, iA g (b 8) 64 rt, lA g (b 9) 25 A7, lA g (b 10) 25 T7, lA g (b 11) 5 U7, iA g (b 12) 25 tn, bA g (b 23) 48 sd, bA g (b 34) 32 P1, bA g (b 33) 496 N7] rfl ?_
                    refine j_st [] rfl ?_
                    have hdl := hd_length (fm := fm) (n := nn) (by omega) sd ly tr 3 u z (q * 2 ^ (fa - z) + i)
                    rw [hF3, hF2, hF1, putL_app' (by first | (simp only [List.length_append, slice_length, hdl]; omega) | simp only [List.length_append, slice_length, hdl]), putL_app' (by first | (simp only [List.length_append, slice_length, hdl]; omega) | simp only [List.length_append, slice_length, hdl]), slice_put (by first | (simp only [List.length_append, slice_length, hdl]; omega) | simp only [List.length_append, slice_length, hdl]), nOK_get hOK (show z - 1 < z by omega) (show 2 * i < 2 ^ (fa - (z - 1)) by omega), nOK_get hOK (show z - 1 < z by omega) (show 2 * i + 1 < 2 ^ (fa - (z - 1)) by omega)] at hE
                    have hE2 : N7 = putL N1 (16 * (bfr fa z + i)) ((fun z j => NG fm nn sd ly tr 3 u (FLF fm nn sd ly tr u) z (q * 2 ^ (fa - z) + j)) z i) := by dsimp only at hE ⊢; rw [hE.2, few_node (by omega) hwd]; rfl
                    refine j_iincN hX i (i + 1) [(4, .int (nI (i + 1))), (0, .ref h), (1, .int (nI u)), (2, .int (nI q)), (3, .int (nI z))] 4 dX11_growFew_186 rfl (nI_1 _) (by decide) rfl ?_
                    refine j_pc 189 rfl ?_
                    refine j_goto hX 92 dX11_growFew_189 (by decide) ?_
                    refine j_perm [(0, .ref h), (1, .int (nI u)), (2, .int (nI q)), (3, .int (nI z)), (4, .int (nI (i + 1)))] [1, 2, 3, 4, 0] rfl ?_
                    exact ih_9 (i + 1) w7 S7 A7 T7 U7 nl7 G7 FO7 N7 (by omega) (by omega) hE.1 (by rw [hE.2]; exact putL_B hN1 (TT_B _ _ _ _ _ _ _ _ _ _)) (nOK_put hOK hnn (NG_length (by omega) _ _ _ _ _ (fun j => FLF_length (by omega) _ _ _ _ _) _ _) rfl hE2)
              refine j_perm [(0, .ref h), (1, .int (nI u)), (2, .int (nI q)), (3, .int (nI z)), (4, .int (nI 0))] [1, 2, 3, 4, 0] rfl ?_
              exact lp_7 _ 0 w1 S1 A1 T1 U1 nl G FO N1 (Nat.lt_succ_self _) (Nat.zero_le _) (by omega) (by omega) (by omega)
        refine j_perm [(0, .ref h), (1, .int (nI u)), (2, .int (nI q)), (3, .int (nI 1))] [1, 2, 3, 0] rfl ?_
        exact lp_4 _ 1 w1 S1 A1 T1 U1 nl G FO N1 (Nat.lt_succ_self _) (by omega) (by omega) (by omega) (by omega) (nOK_next hOK (by rw [Nat.sub_zero]; omega))
      · skip
        have hc0 := bfr_cap (h := fa) (z := 0) (i := k) (Nat.zero_le _) (by rw [Nat.sub_zero]; omega)
        refine j_iload_n hX 2 dX11_growFew_12 rfl ?_
        refine j_aload_n hX 0 dX11_growFew_13 rfl ?_
        refine j_gete hX (nI fa) in11 11 0 19 rfl rfl (by decide) (List.mem_of_getElem? (i := 1) rfl) rfl rfl hv19 dX11_growFew_14 ?_
        refine j_ishlN hX q fa (by omega) (by have h9 := Nat.mul_le_mul (show q ≤ 8 by omega) hp16; omega) dX11_growFew_17 ?_
        refine j_iload_n hX 3 dX11_growFew_18 rfl ?_
        refine j_iaddN hX (q * 2 ^ fa) k dX11_growFew_19 ?_
        refine j_istore hX [(4, .int (nI ((q * 2 ^ fa) + k))), (0, .ref h), (1, .int (nI u)), (2, .int (nI q)), (3, .int (nI k))] dX11_growFew_20 (by decide) rfl ?_
        refine j_pc 22 rfl ?_
        refine j_aload_n hX 1 dX11_growFew_22 rfl ?_
        refine j_bipush hX (6) dX11_growFew_23 (by decide) ?_
        refine j_iload_n hX 2 dX11_growFew_25 rfl ?_
        refine j_iconst hX (0) dX11_growFew_26 (by decide) ?_
        refine j_iload hX 0 dX11_growFew_27 rfl ?_
        refine j_aload_n hX 1 dX11_growFew_29 rfl ?_
        refine j_get hX in11 11 0 34 (v := .ref (b 34)) rfl rfl (by decide) (List.mem_of_getElem? (i := 2) rfl) rfl rfl dX11_growFew_30 ?_
        refine j_iconst hX (0) dX11_growFew_33 (by decide) ?_
        refine j_pc 34 rfl ?_
        refine j_callV2 hX 6 (c_secret l g h b (upd v 3 (nI nl)) G FO w1 S1 fs rt A1 T1 U1 tn sd fm nn ly tr 6 u 0 ((q * 2 ^ fa) + k) (b 34) 32 P1 0 hv15 hv16 hv27 hv28 (by omega) (by omega) hB hfs hrt htn (by omega) (by omega)) gX11_growFew_X11_secret (by decide +kernel) rfl ⟨rfl, rfl⟩ ⟨Nat.le_of_ble_eq_true rfl, Nat.le_of_ble_eq_true rfl⟩ 11 0 rfl rfl [0, 1, 2, 3, 4, 5, 6, 7, 8, 9, 10, 11, 12] [13] 14 rfl (by decide) (fun jj : (Nat → Int32) × (Nat → Int32) × (Nat → Int64) × (Nat → Int64) × (Nat → Int64) × Nat × (Nat → Int32) × (Nat → Int32) × (Nat → Int32) => [oB h 11 (mO b (upd v 3 (nI jj.2.2.2.2.2.1))), bA g (b 2) 1400 jj.2.2.2.2.2.2.1, bA g (b 4) 32 jj.2.2.2.2.2.2.2.1, iA g (b 5) 64 jj.1, iA g (b 6) 8 jj.2.1, iA g (b 7) 8 fs, iA g (b 8) 64 rt, lA g (b 9) 25 jj.2.2.1, lA g (b 10) 25 jj.2.2.2.1, lA g (b 11) 5 jj.2.2.2.2.1, iA g (b 12) 25 tn, bA g (b 23) 48 sd, bA g (b 34) 32 jj.2.2.2.2.2.2.2.2, bA g (b 33) 496 N1]) (fun _ => rfl) (by decide) [h, (b 2), (b 4), (b 5), (b 6), (b 7), (b 8), (b 9), (b 10), (b 11), (b 12), (b 23), (b 34), (b 33)] rfl (fun _ => rfl) (fun _ => rfl) [bA g (b 33) 496 N1] rfl (fun _ => rfl) rfl [] rfl (Nat.le_of_ble_eq_true rfl) ⟨Nat.le_refl _, Nat.le_refl _⟩ dX11_growFew_34 ?_
        rintro ⟨w5, S5, A5, T5, U5, nl5, G5, FO5, P5⟩ hS
        try dsimp only at hS
        refine j_w [oB h 11 (mO b (upd v 3 (nI nl5))), bA g (b 2) 1400 G5, bA g (b 4) 32 FO5, iA g (b 5) 64 w5, iA g (b 6) 8 S5, iA g (b 7) 8 fs, iA g (b 8) 64 rt, lA g (b 9) 25 A5, lA g (b 10) 25 T5, lA g (b 11) 5 U5, iA g (b 12) 25 tn, bA g (b 23) 48 sd, bA g (b 34) 32 P5, bA g (b 33) 496 N1] rfl ?_
        refine j_st [] rfl ?_
        have hsl := secT_length (fm := fm) (n := nn) (by omega) sd ly tr 6 u 0 (q * 2 ^ fa + k)
        have hP5 : isB P5 := by rw [hS.2]; exact putL_B hP1 (TT_B _ _ _ _ _ _ _ _ _ _)
        refine j_aload_n hX 1 dX11_growFew_37 rfl ?_
        refine j_iconst hX (3) dX11_growFew_38 (by decide) ?_
        refine j_iload_n hX 2 dX11_growFew_39 rfl ?_
        refine j_iconst hX (0) dX11_growFew_40 (by decide) ?_
        refine j_iload hX 0 dX11_growFew_41 rfl ?_
        refine j_callV2 hX 4 (c_begin l g h b (upd v 3 (nI nl5)) G5 sd fm nn ly tr 3 u 0 ((q * 2 ^ fa) + k) hv15 hv16 hv27 hv28 (by omega) (by omega) hB) gX11_growFew_X11_begin (by decide +kernel) rfl ⟨rfl, rfl⟩ ⟨Nat.le_of_ble_eq_true rfl, Nat.le_of_ble_eq_true rfl⟩ 11 0 rfl rfl [0, 1, 11] [2, 3, 4, 5, 6, 7, 8, 9, 10, 12, 13] 14 rfl (by decide) (fun jj : (Nat → Int32) => [oB h 11 (mO b (upd v 3 (nI (hl fm nn)))), bA g (b 2) 1400 jj, bA g (b 4) 32 FO5, iA g (b 5) 64 w5, iA g (b 6) 8 S5, iA g (b 7) 8 fs, iA g (b 8) 64 rt, lA g (b 9) 25 A5, lA g (b 10) 25 T5, lA g (b 11) 5 U5, iA g (b 12) 25 tn, bA g (b 23) 48 sd, bA g (b 34) 32 P5, bA g (b 33) 496 N1]) (fun _ => rfl) (by decide) [h, (b 2), (b 4), (b 5), (b 6), (b 7), (b 8), (b 9), (b 10), (b 11), (b 12), (b 23), (b 34), (b 33)] rfl (fun _ => rfl) (fun _ => rfl) [bA g (b 4) 32 FO5, iA g (b 5) 64 w5, iA g (b 6) 8 S5, iA g (b 7) 8 fs, iA g (b 8) 64 rt, lA g (b 9) 25 A5, lA g (b 10) 25 T5, lA g (b 11) 5 U5, iA g (b 12) 25 tn, bA g (b 34) 32 P5, bA g (b 33) 496 N1] rfl (fun _ => rfl) rfl [] rfl (Nat.le_of_ble_eq_true rfl) ⟨Nat.le_refl _, Nat.le_refl _⟩ dX11_growFew_43 ?_
        intro F1 hF1
        try dsimp only at hF1
        refine j_w [oB h 11 (mO b (upd v 3 (nI (hl fm nn)))), bA g (b 2) 1400 F1, bA g (b 4) 32 FO5, iA g (b 5) 64 w5, iA g (b 6) 8 S5, iA g (b 7) 8 fs, iA g (b 8) 64 rt, lA g (b 9) 25 A5, lA g (b 10) 25 T5, lA g (b 11) 5 U5, iA g (b 12) 25 tn, bA g (b 23) 48 sd, bA g (b 34) 32 P5, bA g (b 33) 496 N1] rfl ?_
        refine j_st [] rfl ?_
        refine j_aload_n hX 1 dX11_growFew_46 rfl ?_
        refine j_pc 47 rfl ?_
        refine j_aload_n hX 1 dX11_growFew_47 rfl ?_
        refine j_get hX in11 11 0 34 (v := .ref (b 34)) rfl rfl (by decide) (List.mem_of_getElem? (i := 2) rfl) rfl rfl dX11_growFew_48 ?_
        refine j_iconst hX (0) dX11_growFew_51 (by decide) ?_
        refine j_aload_n hX 1 dX11_growFew_52 rfl ?_
        refine j_gete hX (nI nn) in11 11 0 16 rfl rfl (by decide) (List.mem_of_getElem? (i := 3) rfl) rfl rfl hv16 dX11_growFew_53 ?_
        refine j_callV2 hX 3 (c_layRow l g h b (upd v 3 (nI (hl fm nn))) (hl fm nn) F1 (b 34) 32 P5 0 nn rfl (by omega) (by omega) (by omega) hP5) gX11_growFew_X11_layRow (by decide +kernel) rfl ⟨rfl, rfl⟩ ⟨Nat.le_of_ble_eq_true rfl, Nat.le_of_ble_eq_true rfl⟩ 11 0 rfl rfl [0, 1, 12] [2, 3, 4, 5, 6, 7, 8, 9, 10, 11, 13] 14 rfl (by decide) (fun jj : (Nat → Int32) => [oB h 11 (mO b (upd v 3 (nI ((hl fm nn) + nn)))), bA g (b 2) 1400 jj, bA g (b 4) 32 FO5, iA g (b 5) 64 w5, iA g (b 6) 8 S5, iA g (b 7) 8 fs, iA g (b 8) 64 rt, lA g (b 9) 25 A5, lA g (b 10) 25 T5, lA g (b 11) 5 U5, iA g (b 12) 25 tn, bA g (b 23) 48 sd, bA g (b 34) 32 P5, bA g (b 33) 496 N1]) (fun _ => rfl) (by decide) [h, (b 2), (b 4), (b 5), (b 6), (b 7), (b 8), (b 9), (b 10), (b 11), (b 12), (b 23), (b 34), (b 33)] rfl (fun _ => rfl) (fun _ => rfl) [bA g (b 4) 32 FO5, iA g (b 5) 64 w5, iA g (b 6) 8 S5, iA g (b 7) 8 fs, iA g (b 8) 64 rt, lA g (b 9) 25 A5, lA g (b 10) 25 T5, lA g (b 11) 5 U5, iA g (b 12) 25 tn, bA g (b 23) 48 sd, bA g (b 33) 496 N1] rfl (fun _ => rfl) rfl [] rfl (Nat.le_of_ble_eq_true rfl) ⟨Nat.le_refl _, Nat.le_refl _⟩ dX11_growFew_56 ?_
        intro F2 hF2
        try dsimp only at hF2
        refine j_w [oB h 11 (mO b (upd v 3 (nI ((hl fm nn) + nn)))), bA g (b 2) 1400 F2, bA g (b 4) 32 FO5, iA g (b 5) 64 w5, iA g (b 6) 8 S5, iA g (b 7) 8 fs, iA g (b 8) 64 rt, lA g (b 9) 25 A5, lA g (b 10) 25 T5, lA g (b 11) 5 U5, iA g (b 12) 25 tn, bA g (b 23) 48 sd, bA g (b 34) 32 P5, bA g (b 33) 496 N1] rfl ?_
        refine j_st [] rfl ?_
        rw [hS.2, slice_put hsl.symm] at hF2
        refine j_aload_n hX 1 dX11_growFew_59 rfl ?_
        refine j_aload_n hX 1 dX11_growFew_60 rfl ?_
        refine j_pc 61 rfl ?_
        refine j_get hX in11 11 0 33 (v := .ref (b 33)) rfl rfl (by decide) (List.mem_of_getElem? (i := 4) rfl) rfl rfl dX11_growFew_61 ?_
        refine j_aload_n hX 1 dX11_growFew_64 rfl ?_
        refine j_iconst hX (0) dX11_growFew_65 (by decide) ?_
        refine j_iload_n hX 4 dX11_growFew_66 rfl ?_
        refine j_callV2 hX 2 (c_fewAt l g h b (upd v 3 (nI ((hl fm nn) + nn))) fa 0 k hv19 (by omega) (by omega)) gX11_growFew_X11_fewAt (by decide +kernel) rfl ⟨rfl, rfl⟩ ⟨Nat.le_of_ble_eq_true rfl, Nat.le_of_ble_eq_true rfl⟩ 11 0 rfl rfl [0] [1, 2, 3, 4, 5, 6, 7, 8, 9, 10, 11, 12, 13] 14 rfl (by decide) (fun jj : Unit => [oB h 11 (mO b (upd v 3 (nI ((hl fm nn) + nn)))), bA g (b 2) 1400 F2, bA g (b 4) 32 FO5, iA g (b 5) 64 w5, iA g (b 6) 8 S5, iA g (b 7) 8 fs, iA g (b 8) 64 rt, lA g (b 9) 25 A5, lA g (b 10) 25 T5, lA g (b 11) 5 U5, iA g (b 12) 25 tn, bA g (b 23) 48 sd, bA g (b 34) 32 P5, bA g (b 33) 496 N1]) (fun _ => rfl) (by decide) [h, (b 2), (b 4), (b 5), (b 6), (b 7), (b 8), (b 9), (b 10), (b 11), (b 12), (b 23), (b 34), (b 33)] rfl (fun _ => rfl) (fun _ => rfl) [bA g (b 2) 1400 F2, bA g (b 4) 32 FO5, iA g (b 5) 64 w5, iA g (b 6) 8 S5, iA g (b 7) 8 fs, iA g (b 8) 64 rt, lA g (b 9) 25 A5, lA g (b 10) 25 T5, lA g (b 11) 5 U5, iA g (b 12) 25 tn, bA g (b 23) 48 sd, bA g (b 34) 32 P5, bA g (b 33) 496 N1] rfl (fun _ => rfl) rfl [.ref (b 33), .ref h] rfl (Nat.le_of_ble_eq_true rfl) ⟨Nat.le_refl _, Nat.le_refl _⟩ dX11_growFew_67 ?_
        intro _ hu_13
        refine j_w [oB h 11 (mO b (upd v 3 (nI ((hl fm nn) + nn)))), bA g (b 2) 1400 F2, bA g (b 4) 32 FO5, iA g (b 5) 64 w5, iA g (b 6) 8 S5, iA g (b 7) 8 fs, iA g (b 8) 64 rt, lA g (b 9) 25 A5, lA g (b 10) 25 T5, lA g (b 11) 5 U5, iA g (b 12) 25 tn, bA g (b 23) 48 sd, bA g (b 34) 32 P5, bA g (b 33) 496 N1] rfl ?_
        refine j_st [.int (nI (16 * (bfr fa 0 + k))), .ref (b 33), .ref h] rfl ?_
        refine j_callV2 hX 2 (c_end l g h b (upd v 3 (nI ((hl fm nn) + nn))) ((hl fm nn) + nn) F2 FO5 w5 S5 fs rt A5 T5 U5 tn (b 33) 496 N1 fm nn (16 * (bfr fa 0 + k)) rfl hv15 hv16 (by omega) hfs hrt htn (by omega) (by omega) (by omega) (by omega)) gX11_growFew_X11_end (by decide +kernel) rfl ⟨rfl, rfl⟩ ⟨Nat.le_of_ble_eq_true rfl, Nat.le_of_ble_eq_true rfl⟩ 11 0 rfl rfl [0, 1, 2, 3, 4, 5, 6, 7, 8, 9, 10, 13] [11, 12] 14 rfl (by decide) (fun jj : (Nat → Int32) × (Nat → Int32) × (Nat → Int64) × (Nat → Int64) × (Nat → Int64) × Nat × (Nat → Int32) × (Nat → Int32) × (Nat → Int32) => [oB h 11 (mO b (upd v 3 (nI jj.2.2.2.2.2.1))), bA g (b 2) 1400 jj.2.2.2.2.2.2.1, bA g (b 4) 32 jj.2.2.2.2.2.2.2.1, iA g (b 5) 64 jj.1, iA g (b 6) 8 jj.2.1, iA g (b 7) 8 fs, iA g (b 8) 64 rt, lA g (b 9) 25 jj.2.2.1, lA g (b 10) 25 jj.2.2.2.1, lA g (b 11) 5 jj.2.2.2.2.1, iA g (b 12) 25 tn, bA g (b 23) 48 sd, bA g (b 34) 32 P5, bA g (b 33) 496 jj.2.2.2.2.2.2.2.2]) (fun _ => rfl) (by decide) [h, (b 2), (b 4), (b 5), (b 6), (b 7), (b 8), (b 9), (b 10), (b 11), (b 12), (b 23), (b 34), (b 33)] rfl (fun _ => rfl) (fun _ => rfl) [bA g (b 23) 48 sd, bA g (b 34) 32 P5] rfl (fun _ => rfl) rfl [] rfl (Nat.le_of_ble_eq_true rfl) ⟨Nat.le_refl _, Nat.le_refl _⟩ dX11_growFew_70 ?_
        rintro ⟨w6, S6, A6, T6, U6, nl6, G6, FO6, N6⟩ hL
        try dsimp only at hL
        refine j_w [oB h 11 (mO b (upd v 3 (nI nl6))), bA g (b 2) 1400 G6, bA g (b 4) 32 FO6, iA g (b 5) 64 w6, iA g (b 6) 8 S6, iA g (b 7) 8 fs, iA g (b 8) 64 rt, lA g (b 9) 25 A6, lA g (b 10) 25 T6, lA g (b 11) 5 U6, iA g (b 12) 25 tn, bA g (b 23) 48 sd, bA g (b 34) 32 P5, bA g (b 33) 496 N6] rfl ?_
        refine j_st [] rfl ?_
        have hdl := hd_length (fm := fm) (n := nn) (by omega) sd ly tr 3 u 0 (q * 2 ^ fa + k)
        rw [hF2, hF1, putL_app' (by first | (simp only [List.length_append, hsl, hdl]; omega) | simp only [List.length_append, hsl, hdl]), slice_put (by first | (simp only [List.length_append, hsl, hdl]; omega) | simp only [List.length_append, hsl, hdl])] at hL
        refine j_iincN hX k (k + 1) [(3, .int (nI (k + 1))), (4, .int (nI ((q * 2 ^ fa) + k))), (0, .ref h), (1, .int (nI u)), (2, .int (nI q))] 4 dX11_growFew_73 rfl (nI_1 _) (by decide) rfl ?_
        refine j_goto hX 2 dX11_growFew_76 (by decide) ?_
        refine j_perm [(0, .ref h), (1, .int (nI u)), (2, .int (nI q)), (3, .int (nI (k + 1)))] [2, 3, 4, 0] rfl ?_
        exact ih_3 (k + 1) w6 S6 A6 T6 U6 nl6 G6 FO6 P5 N6 (by omega) (by omega) hL.1 hP5 (by rw [hL.2]; exact putL_B hN1 (TT_B _ _ _ _ _ _ _ _ _ _)) (nOK_put hOK hnn (NG_length (by omega) _ _ _ _ _ (fun j => FLF_length (by omega) _ _ _ _ _) _ _) rfl hL.2)
  refine j_perm [(0, .ref h), (1, .int (nI u)), (2, .int (nI q)), (3, .int (nI 0))] [1, 2, 3, 0] rfl ?_
  exact lp_1 _ 0 w0 S0 A0 T0 U0 n0 f dg pf nd (Nat.lt_succ_self _) (Nat.zero_le _) (by omega) hPB hNB nOK_0

set_option maxHeartbeats 4000000 in
set_option maxRecDepth 100000 in
/-- the reference: put -/
theorem c_mput (l : Launch) (g : jG) (h : Nat) (b : Nat → Nat) (v : Nat → Int32) (nn : Nat) (at0 : Nat) (fa : Nat) (fc : Nat) (ff : Nat → Int32) (sg : Nat → Int32) (t : Nat) (hv16 : v 16 = nI nn) (hv39 : v 39 = nI at0) (hnn : nn ≤ 16) (htc : t + nn ≤ fc) (hfc : fc < 2 ^ 31) (hat : at0 + nn ≤ 2000) (hB : isB ff) : jC l g yX11_put wsX11_put ({ frames := 0, cells := 0, slots := 0, locals := 0 } : Room) [.ref h, .ref fa, .int (nI t)] [oB h 11 (mO b v), bA g fa fc ff, bA g (b 38) 2000 sg] (fun jj : (Nat → Int32) => none) (fun jj : (Nat → Int32) => jj = putL sg at0 (slice ff t nn)) (fun jj : (Nat → Int32) => [oB h 11 (mO b (upd v 39 (nI (at0 + nn)))), bA g fa fc ff, bA g (b 38) 2000 jj]) := by
  refine jC.of (cc := cX11_put) (own := RX11) (maxL := 4) (ret := none) (by decide +kernel) rfl rfl (Nat.le_of_ble_eq_true rfl) (fun u hu => rfl) ?_
  intro p e s m below meth c A Q hX hret
  have in11 : ∀ w ∈ wsX110, w ∈ wsX11_put := (fun w h => List.mem_cons_of_mem _ (List.mem_append_right _ h))
  refine j_iconst hX (0) dX11_put_0 (by decide) ?_
  refine j_st [.int (nI 0)] rfl ?_
  refine j_istore_n hX 3 [(3, .int (nI 0)), (0, .ref h), (1, .ref fa), (2, .int (nI t))] dX11_put_1 rfl (by decide) rfl ?_
  have lp_1 : ∀ (n_2 : Nat) (k : Nat) (F : Nat → Int32), (nn - k < n_2) → (k ≤ nn) → (F = putL sg at0 (slice ff t k)) → J p l e ({ frames := 0, cells := 0, slots := 0, locals := 0 } : Room) s m ([.ref h, .ref fa, .int (nI t)] : List Value).toArray below meth c g A 4 Q 0 0 [oB h 11 (mO b v), bA g fa fc ff, bA g (b 38) 2000 F] [(0, .ref h), (1, .ref fa), (2, .int (nI t)), (3, .int (nI k))] 2 [] := by
    intro n_2
    induction n_2 with
    | zero => intro k F hm; exact absurd hm (Nat.not_lt_zero _)
    | succ n_2 ih_3 =>
      intro k F hm hk hF
      refine j_iload_n hX 3 dX11_put_2 rfl ?_
      refine j_aload_n hX 0 dX11_put_3 rfl ?_
      refine j_gete hX (nI nn) in11 11 0 16 rfl rfl (by decide) (List.mem_of_getElem? (i := 1) rfl) rfl rfl hv16 dX11_put_4 ?_
      refine j_icmp_geN hX k nn 32 dX11_put_7 (by decide) (by omega) (by omega) (fun b_7 => ?_) (fun b_7 => ?_)
      · skip
        refine j_aload_n hX 0 dX11_put_32 rfl ?_
        refine j_pc 33 rfl ?_
        refine j_dup hX dX11_put_33 rfl ?_
        refine j_gete hX (nI at0) in11 11 0 39 rfl rfl (by decide) (List.mem_of_getElem? (i := 3) rfl) rfl rfl hv39 dX11_put_34 ?_
        refine j_aload_n hX 0 dX11_put_37 rfl ?_
        refine j_gete hX (nI nn) in11 11 0 16 rfl rfl (by decide) (List.mem_of_getElem? (i := 1) rfl) rfl rfl hv16 dX11_put_38 ?_
        refine j_iaddN hX at0 nn dX11_put_41 ?_
        refine j_put hX (v := .int (nI (at0 + nn))) (ty := .int) in11 tyX11 tyX11_ok nmX11 11 0 39 rfl rfl (by decide) (List.mem_of_getElem? (i := 3) rfl) rfl rfl rfl rfl rfl (Nat.le_of_ble_eq_true rfl) [oB h 11 (mO b (upd v 39 (nI (at0 + nn)))), bA g fa fc ff, bA g (b 38) 2000 F] rfl dX11_put_42 ?_
        exact hret F (by rw [hF, show k = nn by omega]) 45 _ .return_ dX11_put_45 rfl
      · skip
        refine j_aload_n hX 0 dX11_put_10 rfl ?_
        refine j_pc 11 rfl ?_
        refine j_get hX in11 11 0 38 (v := .ref (b 38)) rfl rfl (by decide) (List.mem_of_getElem? (i := 2) rfl) rfl rfl dX11_put_11 ?_
        refine j_aload_n hX 0 dX11_put_14 rfl ?_
        refine j_gete hX (nI at0) in11 11 0 39 rfl rfl (by decide) (List.mem_of_getElem? (i := 3) rfl) rfl rfl hv39 dX11_put_15 ?_
        refine j_iload_n hX 3 dX11_put_18 rfl ?_
        refine j_iaddN hX at0 k dX11_put_19 ?_
        refine j_aload_n hX 1 dX11_put_20 rfl ?_
        refine j_iload_n hX 2 dX11_put_21 rfl ?_
        refine j_iload_n hX 3 dX11_put_22 rfl ?_
        refine j_pc 23 rfl ?_
        refine j_iaddN hX t k dX11_put_23 ?_
        refine j_baldN hX 1 (t + k) rfl (by omega) (by omega) dX11_put_24 ?_
        refine j_bastN hX 2 (at0 + k) rfl (by omega) (by omega) [oB h 11 (mO b v), bA g fa fc ff, bA g (b 38) 2000 (upd F (at0 + k) (i8 (ff (t + k))))] rfl dX11_put_25 ?_
        refine j_iincN hX k (k + 1) [(3, .int (nI (k + 1))), (0, .ref h), (1, .ref fa), (2, .int (nI t))] 3 dX11_put_26 rfl (nI_1 _) (by decide) rfl ?_
        refine j_goto hX 2 dX11_put_29 (by decide) ?_
        refine j_perm [(0, .ref h), (1, .ref fa), (2, .int (nI t)), (3, .int (nI (k + 1)))] [1, 2, 3, 0] rfl ?_
        exact ih_3 (k + 1) (upd F (at0 + k) (i8 (ff (t + k)))) (by omega) (by omega) (slice_put_step hB hF)
  refine j_perm [(0, .ref h), (1, .ref fa), (2, .int (nI t)), (3, .int (nI 0))] [1, 2, 3, 0] rfl ?_
  exact lp_1 _ 0 sg (Nat.lt_succ_self _) (by omega) (by rw [slice_zero, putL_nil])

set_option maxHeartbeats 4000000 in
set_option maxRecDepth 100000 in
/-- the reference: read -/
theorem c_mread (l : Launch) (g : jG) (h : Nat) (b : Nat → Nat) (v : Nat → Int32) (nn : Nat) (at0 : Nat) (ta : Nat) (tc : Nat) (tf : Nat → Int32) (sg : Nat → Int32) (t : Nat) (hv16 : v 16 = nI nn) (hv39 : v 39 = nI at0) (hnn : nn ≤ 16) (htc : t + nn ≤ tc) (hfc : tc < 2 ^ 31) (hat : at0 + nn ≤ 2000) (hB : isB sg) : jC l g yX11_read wsX11_read ({ frames := 0, cells := 0, slots := 0, locals := 0 } : Room) [.ref h, .ref ta, .int (nI t)] [oB h 11 (mO b v), bA g ta tc tf, bA g (b 38) 2000 sg] (fun jj : (Nat → Int32) => none) (fun jj : (Nat → Int32) => jj = putL tf t (slice sg at0 nn)) (fun jj : (Nat → Int32) => [oB h 11 (mO b (upd v 39 (nI (at0 + nn)))), bA g ta tc jj, bA g (b 38) 2000 sg]) := by
  refine jC.of (cc := cX11_read) (own := RX11) (maxL := 4) (ret := none) (by decide +kernel) rfl rfl (Nat.le_of_ble_eq_true rfl) (fun u hu => rfl) ?_
  intro p e s m below meth c A Q hX hret
  have in11 : ∀ w ∈ wsX110, w ∈ wsX11_read := (fun w h => List.mem_cons_of_mem _ (List.mem_append_right _ h))
  refine j_iconst hX (0) dX11_read_0 (by decide) ?_
  refine j_st [.int (nI 0)] rfl ?_
  refine j_istore_n hX 3 [(3, .int (nI 0)), (0, .ref h), (1, .ref ta), (2, .int (nI t))] dX11_read_1 rfl (by decide) rfl ?_
  have lp_1 : ∀ (n_2 : Nat) (k : Nat) (F : Nat → Int32), (nn - k < n_2) → (k ≤ nn) → (F = putL tf t (slice sg at0 k)) → J p l e ({ frames := 0, cells := 0, slots := 0, locals := 0 } : Room) s m ([.ref h, .ref ta, .int (nI t)] : List Value).toArray below meth c g A 4 Q 0 0 [oB h 11 (mO b v), bA g ta tc F, bA g (b 38) 2000 sg] [(0, .ref h), (1, .ref ta), (2, .int (nI t)), (3, .int (nI k))] 2 [] := by
    intro n_2
    induction n_2 with
    | zero => intro k F hm; exact absurd hm (Nat.not_lt_zero _)
    | succ n_2 ih_3 =>
      intro k F hm hk hF
      refine j_iload_n hX 3 dX11_read_2 rfl ?_
      refine j_aload_n hX 0 dX11_read_3 rfl ?_
      refine j_gete hX (nI nn) in11 11 0 16 rfl rfl (by decide) (List.mem_of_getElem? (i := 1) rfl) rfl rfl hv16 dX11_read_4 ?_
      refine j_icmp_geN hX k nn 32 dX11_read_7 (by decide) (by omega) (by omega) (fun b_7 => ?_) (fun b_7 => ?_)
      · skip
        refine j_aload_n hX 0 dX11_read_32 rfl ?_
        refine j_pc 33 rfl ?_
        refine j_dup hX dX11_read_33 rfl ?_
        refine j_gete hX (nI at0) in11 11 0 39 rfl rfl (by decide) (List.mem_of_getElem? (i := 3) rfl) rfl rfl hv39 dX11_read_34 ?_
        refine j_aload_n hX 0 dX11_read_37 rfl ?_
        refine j_gete hX (nI nn) in11 11 0 16 rfl rfl (by decide) (List.mem_of_getElem? (i := 1) rfl) rfl rfl hv16 dX11_read_38 ?_
        refine j_iaddN hX at0 nn dX11_read_41 ?_
        refine j_put hX (v := .int (nI (at0 + nn))) (ty := .int) in11 tyX11 tyX11_ok nmX11 11 0 39 rfl rfl (by decide) (List.mem_of_getElem? (i := 3) rfl) rfl rfl rfl rfl rfl (Nat.le_of_ble_eq_true rfl) [oB h 11 (mO b (upd v 39 (nI (at0 + nn)))), bA g ta tc F, bA g (b 38) 2000 sg] rfl dX11_read_42 ?_
        exact hret F (by rw [hF, show k = nn by omega]) 45 _ .return_ dX11_read_45 rfl
      · skip
        refine j_aload_n hX 1 dX11_read_10 rfl ?_
        refine j_pc 11 rfl ?_
        refine j_iload_n hX 2 dX11_read_11 rfl ?_
        refine j_iload_n hX 3 dX11_read_12 rfl ?_
        refine j_iaddN hX t k dX11_read_13 ?_
        refine j_aload_n hX 0 dX11_read_14 rfl ?_
        refine j_get hX in11 11 0 38 (v := .ref (b 38)) rfl rfl (by decide) (List.mem_of_getElem? (i := 2) rfl) rfl rfl dX11_read_15 ?_
        refine j_aload_n hX 0 dX11_read_18 rfl ?_
        refine j_gete hX (nI at0) in11 11 0 39 rfl rfl (by decide) (List.mem_of_getElem? (i := 3) rfl) rfl rfl hv39 dX11_read_19 ?_
        refine j_iload_n hX 3 dX11_read_22 rfl ?_
        refine j_pc 23 rfl ?_
        refine j_iaddN hX at0 k dX11_read_23 ?_
        refine j_baldN hX 2 (at0 + k) rfl (by omega) (by omega) dX11_read_24 ?_
        refine j_bastN hX 1 (t + k) rfl (by omega) (by omega) [oB h 11 (mO b v), bA g ta tc (upd F (t + k) (i8 (sg (at0 + k)))), bA g (b 38) 2000 sg] rfl dX11_read_25 ?_
        refine j_iincN hX k (k + 1) [(3, .int (nI (k + 1))), (0, .ref h), (1, .ref ta), (2, .int (nI t))] 3 dX11_read_26 rfl (nI_1 _) (by decide) rfl ?_
        refine j_goto hX 2 dX11_read_29 (by decide) ?_
        refine j_perm [(0, .ref h), (1, .ref ta), (2, .int (nI t)), (3, .int (nI (k + 1)))] [1, 2, 3, 0] rfl ?_
        exact ih_3 (k + 1) (upd F (t + k) (i8 (sg (at0 + k)))) (by omega) (by omega) (slice_put_step hB hF)
  refine j_perm [(0, .ref h), (1, .ref ta), (2, .int (nI t)), (3, .int (nI 0))] [1, 2, 3, 0] rfl ?_
  exact lp_1 _ 0 tf (Nat.lt_succ_self _) (by omega) (by rw [slice_zero, putL_nil])

set_option maxHeartbeats 4000000 in
set_option maxRecDepth 100000 in
/-- the reference: in -/
theorem c_in (l : Launch) (g : jG) (x : Int32) (a : Int32) (b : Int32)  : jC l g yX11_in wsX11_in ({ frames := 0, cells := 0, slots := 0, locals := 0 } : Room) [.int x, .int a, .int b] [] (fun jj : Unit => some (.int (if wiB x a b then 1 else 0))) (fun jj : Unit => True) (fun jj : Unit => []) := by
  refine jC.of (cc := cX11_in) (own := RX11) (maxL := 3) (ret := (some .boolean)) (by decide +kernel) rfl rfl (Nat.le_of_ble_eq_true rfl) (fun u hu => ⟨_, rfl, by split <;> rfl⟩) ?_
  intro p e s m below meth c A Q hX hret
  refine j_iload_n hX 0 dX11_in_0 rfl ?_
  refine j_iload_n hX 1 dX11_in_1 rfl ?_
  refine j_icmp_lt hX 14 dX11_in_2 (by decide) (fun b_2 => ?_) (fun b_2 => ?_)
  · skip
    refine j_iconst hX (0) dX11_in_14 (by decide) ?_
    refine j_topeq _ (if wiB x a b then 1 else 0) (by unfold wiB; first | rw [decide_eq_true (Int32.not_lt.mp b_2), decide_eq_true (Int32.not_lt.mp b_7)]; rfl | rw [decide_eq_false (Int32.not_le.mpr b_2)]; rfl | rw [decide_eq_false (Int32.not_le.mpr b_7), Bool.and_false]; rfl) ?_
    exact hret () trivial 15 _ .ireturn dX11_in_15 rfl
  · skip
    refine j_iload_n hX 0 dX11_in_5 rfl ?_
    refine j_iload_n hX 2 dX11_in_6 rfl ?_
    refine j_pc 7 rfl ?_
    refine j_icmp_gt hX 14 dX11_in_7 (by decide) (fun b_7 => ?_) (fun b_7 => ?_)
    · skip
      refine j_iconst hX (0) dX11_in_14 (by decide) ?_
      refine j_topeq _ (if wiB x a b then 1 else 0) (by unfold wiB; first | rw [decide_eq_true (Int32.not_lt.mp b_2), decide_eq_true (Int32.not_lt.mp b_7)]; rfl | rw [decide_eq_false (Int32.not_le.mpr b_2)]; rfl | rw [decide_eq_false (Int32.not_le.mpr b_7), Bool.and_false]; rfl) ?_
      exact hret () trivial 15 _ .ireturn dX11_in_15 rfl
    · skip
      refine j_iconst hX (1) dX11_in_10 (by decide) ?_
      refine j_goto hX 15 dX11_in_11 (by decide) ?_
      refine j_topeq _ (if wiB x a b then 1 else 0) (by unfold wiB; first | rw [decide_eq_true (Int32.not_lt.mp b_2), decide_eq_true (Int32.not_lt.mp b_7)]; rfl | rw [decide_eq_false (Int32.not_le.mpr b_2)]; rfl | rw [decide_eq_false (Int32.not_le.mpr b_7), Bool.and_false]; rfl) ?_
      exact hret () trivial 15 _ .ireturn dX11_in_15 rfl

set_option maxHeartbeats 4000000 in
set_option maxRecDepth 100000 in
/-- the reference: measure -/
theorem c_measure (l : Launch) (g : jG) (h : Nat) (b : Nat → Nat) (v : Nat → Int32) (nn : Nat) (ht : Nat) (lys : Nat) (fa : Nat) (mk : Nat) (hv16 : v 16 = nI nn) (hv17 : v 17 = nI ht) (hv18 : v 18 = nI lys) (hv19 : v 19 = nI fa) (hv20 : v 20 = nI mk) (hnn4 : nn = 4 ∨ nn = 8 ∨ nn = 12 ∨ nn = 16) : jC l g yX11_measure wsX11_measure ({ frames := 0, cells := 0, slots := 0, locals := 0 } : Room) [.ref h] [oB h 11 (mO b v)] (fun jj : Unit => none) (fun jj : Unit => True) (fun jj : Unit => [oB h 11 (mO b (upd (upd v 21 (nI (ln nn))) 22 (nI (sgS nn ht lys fa mk))))]) := by
  refine jC.of (cc := cX11_measure) (own := RX11) (maxL := 1) (ret := none) (by decide +kernel) rfl rfl (Nat.le_of_ble_eq_true rfl) (fun u hu => rfl) ?_
  intro p e s m below meth c A Q hX hret
  have in11 : ∀ w ∈ wsX110, w ∈ wsX11_measure := (fun w h => List.mem_cons_of_mem _ (List.mem_append_right _ h))
  refine j_aload_n hX 0 dX11_measure_0 rfl ?_
  refine j_aload_n hX 0 dX11_measure_1 rfl ?_
  refine j_gete hX (nI nn) in11 11 0 16 rfl rfl (by decide) (List.mem_of_getElem? (i := 1) rfl) rfl rfl hv16 dX11_measure_2 ?_
  refine j_bipush hX (12) dX11_measure_5 (by decide) ?_
  refine j_icmp_geN hX nn 12 21 dX11_measure_7 (by decide) (by omega) (by omega) (fun b_7 => ?_) (fun b_7 => ?_)
  · skip
    refine j_iconst hX (2) dX11_measure_21 (by decide) ?_
    refine j_aload_n hX 0 dX11_measure_22 rfl ?_
    refine j_pc 23 rfl ?_
    refine j_gete hX (nI nn) in11 11 0 16 rfl rfl (by decide) (List.mem_of_getElem? (i := 1) rfl) rfl rfl hv16 dX11_measure_23 ?_
    refine j_imulN hX 2 nn dX11_measure_26 ?_
    refine j_iconst hX (3) dX11_measure_27 (by decide) ?_
    refine j_iaddN hX (2 * nn) 3 dX11_measure_28 ?_
    refine j_topeq _ (nI (ln nn)) (by rw [ln_4 hnn4, if_neg (by omega)]) ?_
    refine j_put hX (v := .int (nI (ln nn))) (ty := .int) in11 tyX11 tyX11_ok nmX11 11 0 21 rfl rfl (by decide) (List.mem_of_getElem? (i := 2) rfl) rfl rfl rfl rfl rfl (Nat.le_of_ble_eq_true rfl) [oB h 11 (mO b (upd v 21 (nI (ln nn))))] rfl dX11_measure_29 ?_
    refine j_aload_n hX 0 dX11_measure_32 rfl ?_
    refine j_aload_n hX 0 dX11_measure_33 rfl ?_
    refine j_gete hX (nI nn) in11 11 0 16 rfl rfl (by decide) (List.mem_of_getElem? (i := 1) rfl) rfl rfl hv16 dX11_measure_34 ?_
    refine j_pc 37 rfl ?_
    refine j_iconst hX (1) dX11_measure_37 (by decide) ?_
    refine j_aload_n hX 0 dX11_measure_38 rfl ?_
    refine j_gete hX (nI mk) in11 11 0 20 rfl rfl (by decide) (List.mem_of_getElem? (i := 3) rfl) rfl rfl hv20 dX11_measure_39 ?_
    refine j_aload_n hX 0 dX11_measure_42 rfl ?_
    refine j_gete hX (nI fa) in11 11 0 19 rfl rfl (by decide) (List.mem_of_getElem? (i := 4) rfl) rfl rfl hv19 dX11_measure_43 ?_
    refine j_iconst hX (1) dX11_measure_46 (by decide) ?_
    refine j_iaddN hX fa 1 dX11_measure_47 ?_
    refine j_imulN hX mk (fa + 1) dX11_measure_48 ?_
    refine j_pc 49 rfl ?_
    refine j_iaddN hX 1 (mk * (fa + 1)) dX11_measure_49 ?_
    refine j_aload_n hX 0 dX11_measure_50 rfl ?_
    refine j_gete hX (nI lys) in11 11 0 18 rfl rfl (by decide) (List.mem_of_getElem? (i := 5) rfl) rfl rfl hv18 dX11_measure_51 ?_
    refine j_aload_n hX 0 dX11_measure_54 rfl ?_
    refine j_get hX in11 11 0 21 (v := .int (nI (ln nn))) rfl rfl (by decide) (List.mem_of_getElem? (i := 2) rfl) rfl rfl dX11_measure_55 ?_
    refine j_aload_n hX 0 dX11_measure_58 rfl ?_
    refine j_gete hX (nI ht) in11 11 0 17 rfl rfl (by decide) (List.mem_of_getElem? (i := 6) rfl) rfl rfl hv17 dX11_measure_59 ?_
    refine j_iaddN hX (ln nn) ht dX11_measure_62 ?_
    refine j_pc 63 rfl ?_
    refine j_imulN hX lys ((ln nn) + ht) dX11_measure_63 ?_
    refine j_iaddN hX (1 + (mk * (fa + 1))) (lys * ((ln nn) + ht)) dX11_measure_64 ?_
    refine j_imulN hX nn ((1 + (mk * (fa + 1))) + (lys * ((ln nn) + ht))) dX11_measure_65 ?_
    refine j_topeq _ (nI (sgS nn ht lys fa mk)) (congrArg nI (wanted_eq nn ht lys fa mk)) ?_
    refine j_put hX (v := .int (nI (sgS nn ht lys fa mk))) (ty := .int) in11 tyX11 tyX11_ok nmX11 11 0 22 rfl rfl (by decide) (List.mem_of_getElem? (i := 7) rfl) rfl rfl rfl rfl rfl (Nat.le_of_ble_eq_true rfl) [oB h 11 (mO b (upd (upd v 21 (nI (ln nn))) 22 (nI (sgS nn ht lys fa mk))))] rfl dX11_measure_66 ?_
    exact hret () trivial 69 _ .return_ dX11_measure_69 rfl
  · skip
    refine j_iconst hX (2) dX11_measure_10 (by decide) ?_
    refine j_aload_n hX 0 dX11_measure_11 rfl ?_
    refine j_gete hX (nI nn) in11 11 0 16 rfl rfl (by decide) (List.mem_of_getElem? (i := 1) rfl) rfl rfl hv16 dX11_measure_12 ?_
    refine j_pc 15 rfl ?_
    refine j_imulN hX 2 nn dX11_measure_15 ?_
    refine j_iconst hX (2) dX11_measure_16 (by decide) ?_
    refine j_iaddN hX (2 * nn) 2 dX11_measure_17 ?_
    refine j_topeq _ (nI (ln nn)) (by rw [ln_4 hnn4, if_pos (by omega)]) ?_
    refine j_goto hX 29 dX11_measure_18 (by decide) ?_
    refine j_put hX (v := .int (nI (ln nn))) (ty := .int) in11 tyX11 tyX11_ok nmX11 11 0 21 rfl rfl (by decide) (List.mem_of_getElem? (i := 2) rfl) rfl rfl rfl rfl rfl (Nat.le_of_ble_eq_true rfl) [oB h 11 (mO b (upd v 21 (nI (ln nn))))] rfl dX11_measure_29 ?_
    refine j_aload_n hX 0 dX11_measure_32 rfl ?_
    refine j_aload_n hX 0 dX11_measure_33 rfl ?_
    refine j_gete hX (nI nn) in11 11 0 16 rfl rfl (by decide) (List.mem_of_getElem? (i := 1) rfl) rfl rfl hv16 dX11_measure_34 ?_
    refine j_pc 37 rfl ?_
    refine j_iconst hX (1) dX11_measure_37 (by decide) ?_
    refine j_aload_n hX 0 dX11_measure_38 rfl ?_
    refine j_gete hX (nI mk) in11 11 0 20 rfl rfl (by decide) (List.mem_of_getElem? (i := 3) rfl) rfl rfl hv20 dX11_measure_39 ?_
    refine j_aload_n hX 0 dX11_measure_42 rfl ?_
    refine j_gete hX (nI fa) in11 11 0 19 rfl rfl (by decide) (List.mem_of_getElem? (i := 4) rfl) rfl rfl hv19 dX11_measure_43 ?_
    refine j_iconst hX (1) dX11_measure_46 (by decide) ?_
    refine j_iaddN hX fa 1 dX11_measure_47 ?_
    refine j_imulN hX mk (fa + 1) dX11_measure_48 ?_
    refine j_pc 49 rfl ?_
    refine j_iaddN hX 1 (mk * (fa + 1)) dX11_measure_49 ?_
    refine j_aload_n hX 0 dX11_measure_50 rfl ?_
    refine j_gete hX (nI lys) in11 11 0 18 rfl rfl (by decide) (List.mem_of_getElem? (i := 5) rfl) rfl rfl hv18 dX11_measure_51 ?_
    refine j_aload_n hX 0 dX11_measure_54 rfl ?_
    refine j_get hX in11 11 0 21 (v := .int (nI (ln nn))) rfl rfl (by decide) (List.mem_of_getElem? (i := 2) rfl) rfl rfl dX11_measure_55 ?_
    refine j_aload_n hX 0 dX11_measure_58 rfl ?_
    refine j_gete hX (nI ht) in11 11 0 17 rfl rfl (by decide) (List.mem_of_getElem? (i := 6) rfl) rfl rfl hv17 dX11_measure_59 ?_
    refine j_iaddN hX (ln nn) ht dX11_measure_62 ?_
    refine j_pc 63 rfl ?_
    refine j_imulN hX lys ((ln nn) + ht) dX11_measure_63 ?_
    refine j_iaddN hX (1 + (mk * (fa + 1))) (lys * ((ln nn) + ht)) dX11_measure_64 ?_
    refine j_imulN hX nn ((1 + (mk * (fa + 1))) + (lys * ((ln nn) + ht))) dX11_measure_65 ?_
    refine j_topeq _ (nI (sgS nn ht lys fa mk)) (congrArg nI (wanted_eq nn ht lys fa mk)) ?_
    refine j_put hX (v := .int (nI (sgS nn ht lys fa mk))) (ty := .int) in11 tyX11 tyX11_ok nmX11 11 0 22 rfl rfl (by decide) (List.mem_of_getElem? (i := 7) rfl) rfl rfl rfl rfl rfl (Nat.le_of_ble_eq_true rfl) [oB h 11 (mO b (upd (upd v 21 (nI (ln nn))) 22 (nI (sgS nn ht lys fa mk))))] rfl dX11_measure_66 ?_
    exact hret () trivial 69 _ .return_ dX11_measure_69 rfl

set_option maxHeartbeats 4000000 in
set_option maxRecDepth 100000 in
/-- the reference: layPadded -/
theorem c_layPadded (l : Launch) (g : jG) (h : Nat) (b : Nat → Nat) (v : Nat → Int32) (n : Nat) (f : Nat → Int32) (sd : Nat → Int32) (nn : Nat) (msk : Nat) (hv3 : v 3 = nI n) (hv16 : v 16 = nI nn) (hnn : nn ≤ 16) (hn : n + 64 ≤ 1400) : jC l g yX11_layPadded wsX11_layPadded ({ frames := 1, cells := 0, slots := 0, locals := 21 } : Room) [.ref h, .int (nI msk)] [oB h 11 (mO b v), bA g (b 2) 1400 f, bA g (b 23) 48 sd] (fun jj : (Nat → Int32) => none) (fun jj : (Nat → Int32) => jj = putL f n (mskL sd nn msk 64)) (fun jj : (Nat → Int32) => [oB h 11 (mO b (upd v 3 (nI (n + 64)))), bA g (b 2) 1400 jj, bA g (b 23) 48 sd]) := by
  refine jC.of (cc := cX11_layPadded) (own := RX11) (maxL := 3) (ret := none) (by decide +kernel) rfl rfl (Nat.le_of_ble_eq_true rfl) (fun u hu => rfl) ?_
  intro p e s m below meth c A Q hX hret
  have in11 : ∀ w ∈ wsX110, w ∈ wsX11_layPadded := (fun w h => List.mem_cons_of_mem _ (List.mem_append_right _ h))
  refine j_w [oB h 11 (mO b (upd v 3 (nI n))), bA g (b 2) 1400 f, bA g (b 23) 48 sd] (by rw [updS (hv3 : (v : Nat → Int32) 3 = nI n)]) ?_
  refine j_iconst hX (0) dX11_layPadded_0 (by decide) ?_
  refine j_st [.int (nI 0)] rfl ?_
  refine j_istore_n hX 2 [(2, .int (nI 0)), (0, .ref h), (1, .int (nI msk))] dX11_layPadded_1 rfl (by decide) rfl ?_
  have lp_1 : ∀ (n_2 : Nat) (i : Nat) (F : Nat → Int32), (64 - i < n_2) → (i ≤ 64) → (F = putL f n (mskL sd nn msk i)) → J p l e ({ frames := 1, cells := 0, slots := 0, locals := 21 } : Room) s m ([.ref h, .int (nI msk)] : List Value).toArray below meth c g A 3 Q 0 0 [oB h 11 (mO b (upd v 3 (nI (n + i)))), bA g (b 2) 1400 F, bA g (b 23) 48 sd] [(0, .ref h), (1, .int (nI msk)), (2, .int (nI i))] 2 [] := by
    intro n_2
    induction n_2 with
    | zero => intro i F hm; exact absurd hm (Nat.not_lt_zero _)
    | succ n_2 ih_3 =>
      intro i F hm hi hF
      refine j_iload_n hX 2 dX11_layPadded_2 rfl ?_
      refine j_bipush hX (64) dX11_layPadded_3 (by decide) ?_
      refine j_icmp_geN hX i 64 41 dX11_layPadded_5 (by decide) (by omega) (by omega) (fun b_5 => ?_) (fun b_5 => ?_)
      · skip
        refine j_w [oB h 11 (mO b (upd v 3 (nI (n + 64)))), bA g (b 2) 1400 F, bA g (b 23) 48 sd] (by rw [show i = 64 by omega]) ?_
        exact hret F (by rw [hF, show i = 64 by omega]) 41 _ .return_ dX11_layPadded_41 rfl
      · skip
        refine j_aload_n hX 0 dX11_layPadded_8 rfl ?_
        have jn_4 : ∀ (bb : Int32), (i8 (bb ^^^ nI msk) = mskB sd nn msk i) → J p l e ({ frames := 1, cells := 0, slots := 0, locals := 21 } : Room) s m ([.ref h, .int (nI msk)] : List Value).toArray below meth c g A 3 Q 0 0 [oB h 11 (mO b (upd v 3 (nI (n + i)))), bA g (b 2) 1400 F, bA g (b 23) 48 sd] [(0, .ref h), (1, .int (nI msk)), (2, .int (nI i))] 30 [.int bb, .ref h] := by
          intro bb hbb
          refine j_pc 30 rfl ?_
          refine j_iload_n hX 1 dX11_layPadded_30 rfl ?_
          refine j_ixor hX dX11_layPadded_31 ?_
          refine j_callV2 hX 1 (c_mlay l g h b (upd v 3 (nI (n + i))) (n + i) F (bb ^^^ (nI msk)) rfl (by omega)) gX11_layPadded_X11_lay (by decide +kernel) rfl ⟨rfl, rfl⟩ ⟨Nat.le_of_ble_eq_true rfl, Nat.le_of_ble_eq_true rfl⟩ 11 0 rfl rfl [0, 1] [2] 3 rfl (by decide) (fun jj : Unit => [oB h 11 (mO b (upd v 3 (nI ((n + i) + 1)))), bA g (b 2) 1400 (upd F (n + i) (i8 (bb ^^^ (nI msk)))), bA g (b 23) 48 sd]) (fun _ => rfl) (by decide) [h, (b 2), (b 23)] rfl (fun _ => rfl) (fun _ => rfl) [bA g (b 23) 48 sd] rfl (fun _ => rfl) rfl [] rfl (Nat.le_of_ble_eq_true rfl) ⟨Nat.le_refl _, Nat.le_refl _⟩ dX11_layPadded_32 ?_
          intro _ hu_5
          refine j_w [oB h 11 (mO b (upd v 3 (nI ((n + i) + 1)))), bA g (b 2) 1400 (upd F (n + i) (i8 (bb ^^^ (nI msk)))), bA g (b 23) 48 sd] rfl ?_
          refine j_st [] rfl ?_
          refine j_iincN hX i (i + 1) [(2, .int (nI (i + 1))), (0, .ref h), (1, .int (nI msk))] 2 dX11_layPadded_35 rfl (nI_1 _) (by decide) rfl ?_
          refine j_goto hX 2 dX11_layPadded_38 (by decide) ?_
          refine j_perm [(0, .ref h), (1, .int (nI msk)), (2, .int (nI (i + 1)))] [1, 2, 0] rfl ?_
          exact ih_3 (i + 1) (upd F (n + i) (i8 (bb ^^^ (nI msk)))) (by omega) (by omega) (by rw [hbb, hF, putL_snoc (by rw [mskL_length])]; rfl)
        refine j_iload_n hX 2 dX11_layPadded_9 rfl ?_
        refine j_aload_n hX 0 dX11_layPadded_10 rfl ?_
        refine j_gete hX (nI nn) in11 11 0 16 rfl rfl (by decide) (List.mem_of_getElem? (i := 1) rfl) rfl rfl hv16 dX11_layPadded_11 ?_
        refine j_pc 14 rfl ?_
        refine j_icmp_geN hX i nn 29 dX11_layPadded_14 (by decide) (by omega) (by omega) (fun b_14 => ?_) (fun b_14 => ?_)
        · skip
          refine j_iconst hX (0) dX11_layPadded_29 (by decide) ?_
          exact jn_4 0 (by unfold mskB; first | rw [if_pos (by omega)] | rw [if_neg (by omega)])
        · skip
          refine j_aload_n hX 0 dX11_layPadded_17 rfl ?_
          refine j_get hX in11 11 0 23 (v := .ref (b 23)) rfl rfl (by decide) (List.mem_of_getElem? (i := 2) rfl) rfl rfl dX11_layPadded_18 ?_
          refine j_bipush hX (16) dX11_layPadded_21 (by decide) ?_
          refine j_iload_n hX 2 dX11_layPadded_23 rfl ?_
          refine j_iaddN hX 16 i dX11_layPadded_24 ?_
          refine j_baldN hX 2 (16 + i) rfl (by omega) (by omega) dX11_layPadded_25 ?_
          refine j_pc 26 rfl ?_
          refine j_goto hX 30 dX11_layPadded_26 (by decide) ?_
          exact jn_4 (sd (16 + i)) (by unfold mskB; first | rw [if_pos (by omega)] | rw [if_neg (by omega)])
  refine j_perm [(0, .ref h), (1, .int (nI msk)), (2, .int (nI 0))] [1, 2, 0] rfl ?_
  exact lp_1 _ 0 f (Nat.lt_succ_self _) (by omega) (by rw [mskL, putL_nil])

