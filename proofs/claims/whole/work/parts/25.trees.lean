/-! NODES: a tree over given leaves, its kind and u as told -/
def NG (fm n : Nat) (sd : Nat → Int32) (ly tr kd u : Nat) (lf : Nat → List Int32) : Nat → Nat → List Int32
  | 0, i => lf i
  | z + 1, i => TT fm n sd ly tr kd u (z + 1) i (NG fm n sd ly tr kd u lf z (2 * i) ++ NG fm n sd ly tr kd u lf z (2 * i + 1))
def ND (fm n : Nat) (sd : Nat → Int32) (ly tr : Nat) : Nat → Nat → List Int32 := NG fm n sd ly tr 2 0 (fun i => LF fm n sd ly tr i)
theorem NG_length {fm n : Nat} (hn : n ≤ 32) (sd : Nat → Int32) (ly tr kd u : Nat) {lf : Nat → List Int32} (hl : ∀ i, (lf i).length = n) : ∀ z i, (NG fm n sd ly tr kd u lf z i).length = n
  | 0, i => hl i
  | z + 1, i => TT_length hn _ _ _ _ _ _ _ _
theorem slice_two (f : Nat → Int32) (i n : Nat) : slice f (2 * i * n) (2 * n) = slice f (2 * i * n) n ++ slice f ((2 * i + 1) * n) n := by
  apply List.ext_getElem
  · rw [List.length_append, slice_length, slice_length, slice_length]; omega
  · intro j h1 h2
    rw [slice_length] at h1
    have e : ∀ (l : List Int32) (h : j < l.length), l[j] = l.getD j 0 := fun l h => by simp [List.getD, h]
    rw [e, e, slice_getD h1]
    simp only [List.getD]
    by_cases hj : j < n
    · rw [List.getElem?_append_left (by rw [slice_length]; exact hj)]
      have := slice_getD (f := f) (s := 2 * i * n) hj
      simp only [List.getD] at this
      rw [this]
    · rw [List.getElem?_append_right (by rw [slice_length]; omega), slice_length]
      have := slice_getD (f := f) (s := (2 * i + 1) * n) (show j - n < n by omega)
      simp only [List.getD] at this
      have e3 : (2 * i + 1) * n = 2 * i * n + n := Nat.succ_mul (2 * i) n
      rw [this, e3]
      congr 1
      generalize 2 * i * n = q
      omega
theorem rise_bd {n i c : Nat} (h : i < c) : 2 * i * n + 2 * n ≤ 2 * c * n ∧ i * n + n ≤ 2 * c * n := by
  have h1 := Nat.mul_le_mul_right n (show 2 * i + 2 ≤ 2 * c by omega)
  have h2 := Nat.mul_le_mul_right n (show i + 1 ≤ 2 * c by omega)
  rw [Nat.add_mul] at h1
  rw [Nat.succ_mul] at h2
  exact ⟨h1, h2⟩
theorem slice_keep {f : Nat → Int32} {L : List Int32} {t j n : Nat} (h : (j + 1) * n ≤ t ∨ t + L.length ≤ j * n) : slice (putL f t L) (j * n) n = slice f (j * n) n := by
  apply slice_congr
  intro q hq
  rw [Nat.succ_mul] at h
  rw [putL_out (by omega)]
theorem rise_step {fm n : Nat} {sd : Nat → Int32} {ly tr kd u z b i c : Nat} {X : Nat → List Int32} {L1 L2 : Nat → Int32} (hn : n ≤ 16) (hi : i < c) (hT : L2 = putL L1 (i * n) (TT fm n sd ly tr kd u z (b + i) (slice L1 (2 * i * n) (2 * n)))) (hD : ∀ j, j < i → slice L1 (j * n) n = TT fm n sd ly tr kd u z (b + j) (X (2 * j) ++ X (2 * j + 1))) (hR : ∀ j, 2 * i ≤ j → j < 2 * c → slice L1 (j * n) n = X j) :
    (∀ j, j < i + 1 → slice L2 (j * n) n = TT fm n sd ly tr kd u z (b + j) (X (2 * j) ++ X (2 * j + 1))) ∧ (∀ j, 2 * (i + 1) ≤ j → j < 2 * c → slice L2 (j * n) n = X j) := by
  have hl : ∀ r, (TT fm n sd ly tr kd u z (b + i) r).length = n := fun r => TT_length (by omega) _ _ _ _ _ _ _ _
  constructor
  · intro j hj
    by_cases e : j = i
    · subst e
      rw [hT, slice_put (by rw [hl]), slice_two, hR (2 * j) (by omega) (by omega), hR (2 * j + 1) (by omega) (by omega)]
    · rw [hT, slice_keep (Or.inl (Nat.mul_le_mul_right n (show j + 1 ≤ i by omega)))]
      exact hD j (by omega)
  · intro j h1 h2
    rw [hT, slice_keep (Or.inr (by rw [hl]; have := Nat.mul_le_mul_right n (show i + 1 ≤ j by omega); rw [Nat.succ_mul] at this; exact this))]
    exact hR j (by omega) h2
theorem two_pow_sub {h z : Nat} (hz : z < h) : 2 * (1 * 2 ^ (h - (z + 1))) = 2 ^ (h - z) := by
  rw [Nat.one_mul, show h - z = (h - (z + 1)) + 1 by omega, Nat.pow_succ, Nat.mul_comm]
theorem pow_sub_le (h z n : Nat) : 2 ^ (h - z) * n ≤ 2 ^ h * n := Nat.mul_le_mul_right n (Nat.pow_le_pow_right (by decide) (by omega))

set_option maxRecDepth 20000 in
theorem ggX9_gatherLeaves_X7_clear : GoodIn wsX9_gatherLeaves wsX7_clear := goodIn_r _ [10, 11, 184, 185] rfl (by decide +kernel)
set_option maxRecDepth 20000 in
theorem gX9_gatherLeaves_X7_clear : GoodIn wsX9_gatherLeaves (wsV RX9 32 RX7 yX7_clear wsX7_clear) := goodIn_app (goodIn_of _ (by decide +kernel)) ggX9_gatherLeaves_X7_clear
set_option maxRecDepth 20000 in
theorem ggX9_gatherLeaves_X8_leaves : GoodIn wsX9_gatherLeaves wsX8_leaves := goodIn_r _ [16, 17, 178, 179, 180, 181, 182, 183] rfl (by decide +kernel)
set_option maxRecDepth 20000 in
theorem gX9_gatherLeaves_X8_leaves : GoodIn wsX9_gatherLeaves (wsV RX9 35 RX8 yX8_leaves wsX8_leaves) := goodIn_app (goodIn_of _ (by decide +kernel)) ggX9_gatherLeaves_X8_leaves
set_option maxRecDepth 20000 in
theorem ggX9_gatherLeaves_X0_keepLeaf : GoodIn wsX9_gatherLeaves wsX0_keepLeaf := goodIn_r _ [22, 23, 24, 25, 26, 27, 28, 29, 30, 31, 32, 33, 34, 35, 36, 37, 38, 21, 39, 40, 7, 8, 9, 10, 11, 41, 42, 43, 15, 44, 45, 46, 47, 48, 49, 50, 51, 52, 53, 54, 55, 56, 57, 58, 59, 60, 61, 62, 63, 64, 65, 66, 67, 68, 69, 70, 71, 72, 73, 74, 75, 76, 77, 78, 79, 80, 81, 82, 83, 84, 85, 86, 87, 88, 89, 90, 91, 92, 93, 94, 95, 96, 97, 98, 99, 100, 101, 102, 103, 104, 105, 106, 107, 108, 109, 110, 111, 112, 113, 114, 115, 116, 117, 118, 119, 120, 121, 122, 123, 124, 125, 126, 127, 128, 129, 130, 131, 132, 133, 134, 135, 136, 137, 138, 139, 140, 141, 142, 143, 144, 145, 146, 147, 148, 149, 150, 151, 152, 153, 154, 155, 156, 157, 158, 159, 160, 161, 162, 163, 172, 173, 174, 175, 176, 177, 178, 179, 180, 181, 182, 183, 186, 187, 188, 189, 190, 191, 192, 193, 184, 185, 194, 195, 196, 197] rfl (by decide +kernel)
set_option maxRecDepth 20000 in
theorem gX9_gatherLeaves_X0_keepLeaf : GoodIn wsX9_gatherLeaves (wsV RX9 41 RX0 yX0_keepLeaf wsX0_keepLeaf) := goodIn_app (goodIn_of _ (by decide +kernel)) ggX9_gatherLeaves_X0_keepLeaf
set_option maxRecDepth 20000 in
theorem ggX9_gatherLeaves_X0_leafStart : GoodIn wsX9_gatherLeaves wsX0_leafStart := goodIn_r _ [166, 37, 38, 21, 39] rfl (by decide +kernel)
set_option maxRecDepth 20000 in
theorem gX9_gatherLeaves_X0_leafStart : GoodIn wsX9_gatherLeaves (va_wsS RX9 49 yX0_leafStart wsX0_leafStart) := goodIn_app (goodIn_of _ (by decide +kernel)) ggX9_gatherLeaves_X0_leafStart
set_option maxRecDepth 20000 in
theorem ggX9_gatherLeaves_X7_add : GoodIn wsX9_gatherLeaves wsX7_add := goodIn_r _ [81, 11, 82, 62, 63, 9, 64, 65, 66, 67, 68, 69, 70, 71, 72, 73, 184, 185] rfl (by decide +kernel)
set_option maxRecDepth 20000 in
theorem gX9_gatherLeaves_X7_add : GoodIn wsX9_gatherLeaves (wsV RX9 57 RX7 yX7_add wsX7_add) := goodIn_app (goodIn_of _ (by decide +kernel)) ggX9_gatherLeaves_X7_add
theorem dX9_gatherLeaves_0 : decode cX9_gatherLeaves 0 = .ok (.aload_n 0, 1) := by decide +kernel
theorem dX9_gatherLeaves_1 : decode cX9_gatherLeaves 1 = .ok (.getfield 14, 3) := by decide +kernel
theorem dX9_gatherLeaves_4 : decode cX9_gatherLeaves 4 = .ok (.invokevirtual 32, 3) := by decide +kernel
theorem dX9_gatherLeaves_7 : decode cX9_gatherLeaves 7 = .ok (.iconst 0, 1) := by decide +kernel
theorem dX9_gatherLeaves_8 : decode cX9_gatherLeaves 8 = .ok (.istore_n 3, 1) := by decide +kernel
theorem dX9_gatherLeaves_9 : decode cX9_gatherLeaves 9 = .ok (.iload_n 3, 1) := by decide +kernel
theorem dX9_gatherLeaves_10 : decode cX9_gatherLeaves 10 = .ok (.aload_n 0, 1) := by decide +kernel
theorem dX9_gatherLeaves_11 : decode cX9_gatherLeaves 11 = .ok (.getfield 20, 3) := by decide +kernel
theorem dX9_gatherLeaves_14 : decode cX9_gatherLeaves 14 = .ok (.invokevirtual 35, 3) := by decide +kernel
theorem dX9_gatherLeaves_17 : decode cX9_gatherLeaves 17 = .ok (.if_icmp .ge 46, 3) := by decide +kernel
theorem dX9_gatherLeaves_20 : decode cX9_gatherLeaves 20 = .ok (.aload_n 0, 1) := by decide +kernel
theorem dX9_gatherLeaves_21 : decode cX9_gatherLeaves 21 = .ok (.getfield 28, 3) := by decide +kernel
theorem dX9_gatherLeaves_24 : decode cX9_gatherLeaves 24 = .ok (.iload_n 1, 1) := by decide +kernel
theorem dX9_gatherLeaves_25 : decode cX9_gatherLeaves 25 = .ok (.iload_n 2, 1) := by decide +kernel
theorem dX9_gatherLeaves_26 : decode cX9_gatherLeaves 26 = .ok (.iload_n 3, 1) := by decide +kernel
theorem dX9_gatherLeaves_27 : decode cX9_gatherLeaves 27 = .ok (.invokevirtual 41, 3) := by decide +kernel
theorem dX9_gatherLeaves_30 : decode cX9_gatherLeaves 30 = .ok (.aload_n 0, 1) := by decide +kernel
theorem dX9_gatherLeaves_31 : decode cX9_gatherLeaves 31 = .ok (.getfield 14, 3) := by decide +kernel
theorem dX9_gatherLeaves_34 : decode cX9_gatherLeaves 34 = .ok (.aload_n 0, 1) := by decide +kernel
theorem dX9_gatherLeaves_35 : decode cX9_gatherLeaves 35 = .ok (.getfield 28, 3) := by decide +kernel
theorem dX9_gatherLeaves_38 : decode cX9_gatherLeaves 38 = .ok (.getfield 47, 3) := by decide +kernel
theorem dX9_gatherLeaves_41 : decode cX9_gatherLeaves 41 = .ok (.iload_n 1, 1) := by decide +kernel
theorem dX9_gatherLeaves_42 : decode cX9_gatherLeaves 42 = .ok (.iload_n 2, 1) := by decide +kernel
theorem dX9_gatherLeaves_43 : decode cX9_gatherLeaves 43 = .ok (.iload_n 3, 1) := by decide +kernel
theorem dX9_gatherLeaves_44 : decode cX9_gatherLeaves 44 = .ok (.invokestatic 49, 3) := by decide +kernel
theorem dX9_gatherLeaves_47 : decode cX9_gatherLeaves 47 = .ok (.aload_n 0, 1) := by decide +kernel
theorem dX9_gatherLeaves_48 : decode cX9_gatherLeaves 48 = .ok (.getfield 20, 3) := by decide +kernel
theorem dX9_gatherLeaves_51 : decode cX9_gatherLeaves 51 = .ok (.getfield 53, 3) := by decide +kernel
theorem dX9_gatherLeaves_54 : decode cX9_gatherLeaves 54 = .ok (.invokevirtual 57, 3) := by decide +kernel
theorem dX9_gatherLeaves_57 : decode cX9_gatherLeaves 57 = .ok (.iinc 3 1, 3) := by decide +kernel
theorem dX9_gatherLeaves_60 : decode cX9_gatherLeaves 60 = .ok (.goto (-51), 3) := by decide +kernel
theorem dX9_gatherLeaves_63 : decode cX9_gatherLeaves 63 = .ok (.return_, 1) := by decide +kernel
set_option maxRecDepth 20000 in
theorem ggX9_climb_X9_rise : GoodIn wsX9_climb wsX9_rise := goodIn_r _ [7, 8, 9, 10, 1, 11, 12, 13, 14, 15, 16, 17, 18, 19, 20, 21, 22, 23, 24, 25, 26, 27, 28, 29, 30, 31, 32, 33, 34, 35, 36, 37, 38, 39, 40, 41, 42, 43, 44, 45, 46, 47, 48, 49, 50, 51, 52, 53, 54, 55, 56, 57, 58, 59, 60, 61, 62, 63, 64, 65, 66, 67, 68, 69, 70, 71, 72, 73, 74, 75, 76, 77, 78, 79, 80, 81, 82, 83, 84, 85, 86, 87, 88, 89, 90, 91, 92, 93, 94, 95, 96, 97, 98, 99, 100, 101, 102, 103, 104, 105, 106, 107, 108, 109, 110, 111, 112, 113, 114, 115, 116, 117, 118, 119, 120, 121, 122, 123, 124, 125, 126, 133, 134, 135, 136, 137, 138, 139, 140, 127, 128, 129, 130, 131, 132, 141, 142, 143, 144, 145, 146] rfl (by decide +kernel)
set_option maxRecDepth 20000 in
theorem gX9_climb_X9_rise : GoodIn wsX9_climb (wsV RX9 64 RX9 yX9_rise wsX9_rise) := goodIn_app (goodIn_of _ (by decide +kernel)) ggX9_climb_X9_rise
theorem dX9_climb_0 : decode cX9_climb 0 = .ok (.iconst 1, 1) := by decide +kernel
theorem dX9_climb_1 : decode cX9_climb 1 = .ok (.istore_n 1, 1) := by decide +kernel
theorem dX9_climb_2 : decode cX9_climb 2 = .ok (.iload_n 1, 1) := by decide +kernel
theorem dX9_climb_3 : decode cX9_climb 3 = .ok (.aload_n 0, 1) := by decide +kernel
theorem dX9_climb_4 : decode cX9_climb 4 = .ok (.getfield 20, 3) := by decide +kernel
theorem dX9_climb_7 : decode cX9_climb 7 = .ok (.getfield 61, 3) := by decide +kernel
theorem dX9_climb_10 : decode cX9_climb 10 = .ok (.if_icmp .gt 28, 3) := by decide +kernel
theorem dX9_climb_13 : decode cX9_climb 13 = .ok (.aload_n 0, 1) := by decide +kernel
theorem dX9_climb_14 : decode cX9_climb 14 = .ok (.iconst 2, 1) := by decide +kernel
theorem dX9_climb_15 : decode cX9_climb 15 = .ok (.iconst 0, 1) := by decide +kernel
theorem dX9_climb_16 : decode cX9_climb 16 = .ok (.iload_n 1, 1) := by decide +kernel
theorem dX9_climb_17 : decode cX9_climb 17 = .ok (.iconst 0, 1) := by decide +kernel
theorem dX9_climb_18 : decode cX9_climb 18 = .ok (.iconst 1, 1) := by decide +kernel
theorem dX9_climb_19 : decode cX9_climb 19 = .ok (.aload_n 0, 1) := by decide +kernel
theorem dX9_climb_20 : decode cX9_climb 20 = .ok (.getfield 20, 3) := by decide +kernel
theorem dX9_climb_23 : decode cX9_climb 23 = .ok (.getfield 61, 3) := by decide +kernel
theorem dX9_climb_26 : decode cX9_climb 26 = .ok (.iload_n 1, 1) := by decide +kernel
theorem dX9_climb_27 : decode cX9_climb 27 = .ok (.isub, 1) := by decide +kernel
theorem dX9_climb_28 : decode cX9_climb 28 = .ok (.ishl, 1) := by decide +kernel
theorem dX9_climb_29 : decode cX9_climb 29 = .ok (.invokevirtual 64, 3) := by decide +kernel
theorem dX9_climb_32 : decode cX9_climb 32 = .ok (.iinc 1 1, 3) := by decide +kernel
theorem dX9_climb_35 : decode cX9_climb 35 = .ok (.goto (-33), 3) := by decide +kernel
theorem dX9_climb_38 : decode cX9_climb 38 = .ok (.return_, 1) := by decide +kernel
set_option maxRecDepth 20000 in
theorem ggX9_rise_X5_start : GoodIn wsX9_rise wsX5_start := goodIn_r _ [10, 11, 12, 13, 14, 15, 16, 17, 18, 19, 20, 21, 22, 23, 24, 25, 26, 27, 28, 29, 30, 31, 32, 33, 34, 35, 36, 37, 38, 39, 40, 121, 122, 123, 124, 125, 126, 127, 128, 129, 130, 131, 132, 133, 134, 135, 136] rfl (by decide +kernel)
set_option maxRecDepth 20000 in
theorem gX9_rise_X5_start : GoodIn wsX9_rise (wsV RX9 68 RX5 yX5_start wsX5_start) := goodIn_app (goodIn_of _ (by decide +kernel)) ggX9_rise_X5_start
set_option maxRecDepth 20000 in
theorem ggX9_rise_X7_add : GoodIn wsX9_rise wsX7_add := goodIn_r _ [44, 23, 45, 25, 26, 21, 27, 28, 29, 30, 31, 32, 33, 34, 35, 36, 135, 136] rfl (by decide +kernel)
set_option maxRecDepth 20000 in
theorem gX9_rise_X7_add : GoodIn wsX9_rise (wsV RX9 57 RX7 yX7_add wsX7_add) := goodIn_app (goodIn_of _ (by decide +kernel)) ggX9_rise_X7_add
set_option maxRecDepth 20000 in
theorem ggX9_rise_X5_finish : GoodIn wsX9_rise wsX5_finish := goodIn_r _ [49, 11, 12, 13, 50, 15, 51, 52, 53, 9, 54, 55, 56, 57, 58, 59, 60, 61, 62, 63, 64, 65, 66, 67, 68, 38, 39, 21, 40, 23, 28, 69, 70, 71, 72, 73, 74, 75, 76, 77, 78, 79, 80, 81, 82, 83, 84, 85, 86, 87, 88, 89, 90, 91, 92, 93, 94, 19, 20, 22, 95, 96, 97, 98, 99, 100, 101, 102, 103, 104, 105, 106, 107, 108, 109, 110, 111, 112, 113, 114, 115, 116, 24, 25, 26, 27, 29, 30, 31, 32, 33, 34, 35, 36, 121, 122, 123, 124, 125, 126, 127, 128, 129, 130, 131, 132, 133, 134, 135, 136, 137, 138, 139, 140] rfl (by decide +kernel)
set_option maxRecDepth 20000 in
theorem gX9_rise_X5_finish : GoodIn wsX9_rise (wsV RX9 77 RX5 yX5_finish wsX5_finish) := goodIn_app (goodIn_of _ (by decide +kernel)) ggX9_rise_X5_finish
theorem dX9_rise_0 : decode cX9_rise 0 = .ok (.iconst 0, 1) := by decide +kernel
theorem dX9_rise_1 : decode cX9_rise 1 = .ok (.istore 6, 2) := by decide +kernel
theorem dX9_rise_3 : decode cX9_rise 3 = .ok (.iload 6, 2) := by decide +kernel
theorem dX9_rise_5 : decode cX9_rise 5 = .ok (.iload 5, 2) := by decide +kernel
theorem dX9_rise_7 : decode cX9_rise 7 = .ok (.if_icmp .ge 80, 3) := by decide +kernel
theorem dX9_rise_10 : decode cX9_rise 10 = .ok (.aload_n 0, 1) := by decide +kernel
theorem dX9_rise_11 : decode cX9_rise 11 = .ok (.getfield 24, 3) := by decide +kernel
theorem dX9_rise_14 : decode cX9_rise 14 = .ok (.iload_n 1, 1) := by decide +kernel
theorem dX9_rise_15 : decode cX9_rise 15 = .ok (.iload_n 2, 1) := by decide +kernel
theorem dX9_rise_16 : decode cX9_rise 16 = .ok (.iload_n 3, 1) := by decide +kernel
theorem dX9_rise_17 : decode cX9_rise 17 = .ok (.iload 4, 2) := by decide +kernel
theorem dX9_rise_19 : decode cX9_rise 19 = .ok (.iload 6, 2) := by decide +kernel
theorem dX9_rise_21 : decode cX9_rise 21 = .ok (.iadd, 1) := by decide +kernel
theorem dX9_rise_22 : decode cX9_rise 22 = .ok (.invokevirtual 68, 3) := by decide +kernel
theorem dX9_rise_25 : decode cX9_rise 25 = .ok (.aload_n 0, 1) := by decide +kernel
theorem dX9_rise_26 : decode cX9_rise 26 = .ok (.getfield 24, 3) := by decide +kernel
theorem dX9_rise_29 : decode cX9_rise 29 = .ok (.getfield 74, 3) := by decide +kernel
theorem dX9_rise_32 : decode cX9_rise 32 = .ok (.aload_n 0, 1) := by decide +kernel
theorem dX9_rise_33 : decode cX9_rise 33 = .ok (.getfield 14, 3) := by decide +kernel
theorem dX9_rise_36 : decode cX9_rise 36 = .ok (.iconst 2, 1) := by decide +kernel
theorem dX9_rise_37 : decode cX9_rise 37 = .ok (.iload 6, 2) := by decide +kernel
theorem dX9_rise_39 : decode cX9_rise 39 = .ok (.imul, 1) := by decide +kernel
theorem dX9_rise_40 : decode cX9_rise 40 = .ok (.aload_n 0, 1) := by decide +kernel
theorem dX9_rise_41 : decode cX9_rise 41 = .ok (.getfield 20, 3) := by decide +kernel
theorem dX9_rise_44 : decode cX9_rise 44 = .ok (.getfield 53, 3) := by decide +kernel
theorem dX9_rise_47 : decode cX9_rise 47 = .ok (.imul, 1) := by decide +kernel
theorem dX9_rise_48 : decode cX9_rise 48 = .ok (.iconst 2, 1) := by decide +kernel
theorem dX9_rise_49 : decode cX9_rise 49 = .ok (.aload_n 0, 1) := by decide +kernel
theorem dX9_rise_50 : decode cX9_rise 50 = .ok (.getfield 20, 3) := by decide +kernel
theorem dX9_rise_53 : decode cX9_rise 53 = .ok (.getfield 53, 3) := by decide +kernel
theorem dX9_rise_56 : decode cX9_rise 56 = .ok (.imul, 1) := by decide +kernel
theorem dX9_rise_57 : decode cX9_rise 57 = .ok (.invokevirtual 57, 3) := by decide +kernel
theorem dX9_rise_60 : decode cX9_rise 60 = .ok (.aload_n 0, 1) := by decide +kernel
theorem dX9_rise_61 : decode cX9_rise 61 = .ok (.getfield 24, 3) := by decide +kernel
theorem dX9_rise_64 : decode cX9_rise 64 = .ok (.aload_n 0, 1) := by decide +kernel
theorem dX9_rise_65 : decode cX9_rise 65 = .ok (.getfield 14, 3) := by decide +kernel
theorem dX9_rise_68 : decode cX9_rise 68 = .ok (.iload 6, 2) := by decide +kernel
theorem dX9_rise_70 : decode cX9_rise 70 = .ok (.aload_n 0, 1) := by decide +kernel
theorem dX9_rise_71 : decode cX9_rise 71 = .ok (.getfield 20, 3) := by decide +kernel
theorem dX9_rise_74 : decode cX9_rise 74 = .ok (.getfield 53, 3) := by decide +kernel
theorem dX9_rise_77 : decode cX9_rise 77 = .ok (.imul, 1) := by decide +kernel
theorem dX9_rise_78 : decode cX9_rise 78 = .ok (.invokevirtual 77, 3) := by decide +kernel
theorem dX9_rise_81 : decode cX9_rise 81 = .ok (.iinc 6 1, 3) := by decide +kernel
theorem dX9_rise_84 : decode cX9_rise 84 = .ok (.goto (-81), 3) := by decide +kernel
theorem dX9_rise_87 : decode cX9_rise 87 = .ok (.return_, 1) := by decide +kernel
set_option maxHeartbeats 1000000 in
set_option maxRecDepth 100000 in
/-- Trees.rise -/
theorem c_rise (l : Launch) (g : jG) (te : Nat) (lvl : Nat) (ch : Nat) (hh : Nat) (inr : Nat) (outr : Nat) (zo : Nat) (on : Nat) (sp : Nat) (fm : Nat) (nn : Nat) (ht : Nat) (lys : Nat) (fa : Nat) (mk : Nat) (sdr : Nat) (ly : Nat) (tr : Nat) (sda : Nat) (sd : Nat → Int32) (ina : Nat) (ni : Nat) (fi : Nat → Int32) (outa : Nat) (no : Nat) (fo : Nat → Int32) (sa : Nat) (wa : Nat) (S0 : Nat → Int32) (w0 : Nat → Int32) (aa : Nat) (ba : Nat) (A0 : Nat → Int64) (B0 : Nat → Int64) (lvla : Nat) (nlv : Nat) (lf : Nat → Int32) (kd : Nat) (ku : Nat) (kz : Nat) (fst : Nat) (cn : Nat) (X : Nat → List Int32) (hfm : fm < 2) (hnn : nn ≤ 16) (hB : isB sd) (hno : no ≤ 32) (hBo : isB fo) (hni0 : ni ≤ 768) (hlv : nlv ≤ 256) (hcap : 2 * cn * nn ≤ nlv) (hLB : isB lf) (hcn : cn < 2 ^ 20) (hX0 : ∀ j, j < 2 * cn → slice lf (j * nn) nn = X j) : jC l g yX9_rise wsX9_rise ({ frames := 3, cells := 0, slots := 0, locals := 90 } : Room) [.ref te, .int (nI kd), .int (nI ku), .int (nI kz), .int (nI fst), .int (nI cn)] [oB te 9 [.ref lvl, .ref sp, .ref hh, .ref ch], oB hh 5 [.ref inr, .ref outr, .ref zo, .ref on, .ref sp, .ref sdr, .int (nI ly), .int (nI tr)], oB sp 8 [.int (nI fm), .int (nI nn), .int (nI ht), .int (nI lys), .int (nI fa), .int (nI mk)], oB sdr 7 [.ref sda, .int (nI 48)], bA g sda 48 sd, oB inr 7 [.ref ina, .int (nI ni)], bA g ina 768 fi, oB outr 7 [.ref outa, .int (nI no)], bA g outa 32 fo, oB zo 4 [.ref sa, .ref wa], iA g sa 8 S0, iA g wa 64 w0, oB on 3 [.ref aa, .ref ba], lA g aa 25 A0, lA g ba 25 B0, oB lvl 7 [.ref lvla, .int (nI nlv)], bA g lvla 256 lf] (fun jj : Nat × (Nat → Int32) × (Nat → Int32) × (Nat → Int64) × (Nat → Int64) × Nat × (Nat → Int32) × (Nat → Int32) × (Nat → Int32) => none) (fun jj : Nat × (Nat → Int32) × (Nat → Int32) × (Nat → Int64) × (Nat → Int64) × Nat × (Nat → Int32) × (Nat → Int32) × (Nat → Int32) => (jj.2.2.2.2.2.1 ≤ 768 ∧ jj.1 ≤ 32) ∧ isB jj.2.2.2.2.2.2.2.1 ∧ isB jj.2.2.2.2.2.2.2.2 ∧ ∀ j, j < cn → slice jj.2.2.2.2.2.2.2.2 (j * nn) nn = TT fm nn sd ly tr kd ku kz (fst + j) (X (2 * j) ++ X (2 * j + 1))) (fun jj : Nat × (Nat → Int32) × (Nat → Int32) × (Nat → Int64) × (Nat → Int64) × Nat × (Nat → Int32) × (Nat → Int32) × (Nat → Int32) => [oB te 9 [.ref lvl, .ref sp, .ref hh, .ref ch], oB hh 5 [.ref inr, .ref outr, .ref zo, .ref on, .ref sp, .ref sdr, .int (nI ly), .int (nI tr)], oB sp 8 [.int (nI fm), .int (nI nn), .int (nI ht), .int (nI lys), .int (nI fa), .int (nI mk)], oB sdr 7 [.ref sda, .int (nI 48)], bA g sda 48 sd, oB inr 7 [.ref ina, .int (nI jj.2.2.2.2.2.1)], bA g ina 768 jj.2.2.2.2.2.2.1, oB outr 7 [.ref outa, .int (nI jj.1)], bA g outa 32 jj.2.2.2.2.2.2.2.1, oB zo 4 [.ref sa, .ref wa], iA g sa 8 jj.2.1, iA g wa 64 jj.2.2.1, oB on 3 [.ref aa, .ref ba], lA g aa 25 jj.2.2.2.1, lA g ba 25 jj.2.2.2.2.1, oB lvl 7 [.ref lvla, .int (nI nlv)], bA g lvla 256 jj.2.2.2.2.2.2.2.2]) := by
  refine jC.of (cc := cX9_rise) (own := RX9) (maxL := 7) (ret := none) (by decide +kernel) rfl rfl (Nat.le_of_ble_eq_true rfl) (fun u hu => rfl) ?_
  intro p e s m below meth c A Q hX hret
  have in5 : ∀ w ∈ wsX50, w ∈ wsX9_rise := (fun w h => List.mem_cons_of_mem _ (List.mem_append_left _ (List.mem_append_left _ (List.mem_append_left _ (List.mem_append_left _ (List.mem_append_right _ h))))))
  have in8 : ∀ w ∈ wsX80, w ∈ wsX9_rise := (fun w h => List.mem_cons_of_mem _ (List.mem_append_left _ (List.mem_append_left _ (List.mem_append_left _ (List.mem_append_right _ h)))))
  have in9 : ∀ w ∈ wsX90, w ∈ wsX9_rise := (fun w h => List.mem_cons_of_mem _ (List.mem_append_left _ (List.mem_append_left _ (List.mem_append_left _ (List.mem_append_left _ (List.mem_append_left _ (List.mem_append_right _ h)))))))
  have hh2 := hl_le (fm := fm) hnn
  refine j_iconst hX (0) dX9_rise_0 (by decide) ?_
  refine j_st [.int (nI 0)] rfl ?_
  refine j_istore hX [(6, .int (nI 0)), (0, .ref te), (1, .int (nI kd)), (2, .int (nI ku)), (3, .int (nI kz)), (4, .int (nI fst)), (5, .int (nI cn))] dX9_rise_1 (by decide) rfl ?_
  have lp_1 : ∀ (n_2 : Nat) (i : Nat) (no1 : Nat) (S1 : Nat → Int32) (w1 : Nat → Int32) (A1 : Nat → Int64) (B1 : Nat → Int64) (nl : Nat) (G : Nat → Int32) (FO : Nat → Int32) (L1 : Nat → Int32), (cn - i < n_2) → (i ≤ cn) → (nl ≤ 768 ∧ no1 ≤ 32) → (isB FO) → (isB L1) → (∀ j, j < i → slice L1 (j * nn) nn = TT fm nn sd ly tr kd ku kz (fst + j) (X (2 * j) ++ X (2 * j + 1))) → (∀ j, 2 * i ≤ j → j < 2 * cn → slice L1 (j * nn) nn = X j) → J p l e ({ frames := 3, cells := 0, slots := 0, locals := 90 } : Room) s m ([.ref te, .int (nI kd), .int (nI ku), .int (nI kz), .int (nI fst), .int (nI cn)] : List Value).toArray below meth c g A 7 Q 0 0 [oB te 9 [.ref lvl, .ref sp, .ref hh, .ref ch], oB hh 5 [.ref inr, .ref outr, .ref zo, .ref on, .ref sp, .ref sdr, .int (nI ly), .int (nI tr)], oB sp 8 [.int (nI fm), .int (nI nn), .int (nI ht), .int (nI lys), .int (nI fa), .int (nI mk)], oB sdr 7 [.ref sda, .int (nI 48)], bA g sda 48 sd, oB inr 7 [.ref ina, .int (nI nl)], bA g ina 768 G, oB outr 7 [.ref outa, .int (nI no1)], bA g outa 32 FO, oB zo 4 [.ref sa, .ref wa], iA g sa 8 S1, iA g wa 64 w1, oB on 3 [.ref aa, .ref ba], lA g aa 25 A1, lA g ba 25 B1, oB lvl 7 [.ref lvla, .int (nI nlv)], bA g lvla 256 L1] [(0, .ref te), (1, .int (nI kd)), (2, .int (nI ku)), (3, .int (nI kz)), (4, .int (nI fst)), (5, .int (nI cn)), (6, .int (nI i))] 3 [] := by
    intro n_2
    induction n_2 with
    | zero => intro i no1 S1 w1 A1 B1 nl G FO L1 hm; exact absurd hm (Nat.not_lt_zero _)
    | succ n_2 ih_3 =>
      intro i no1 S1 w1 A1 B1 nl G FO L1 hm hi hnl hFO hB2 hD hR
      refine j_iload hX 6 dX9_rise_3 rfl ?_
      refine j_iload hX 5 dX9_rise_5 rfl ?_
      refine j_icmp_geN hX i cn 87 dX9_rise_7 (by decide) (by omega) (by omega) (fun b_7 => ?_) (fun b_7 => ?_)
      · skip
        exact hret (no1, S1, w1, A1, B1, nl, G, FO, L1) (by dsimp only; exact ⟨hnl, hFO, hB2, fun j hj => hD j (by omega)⟩) 87 _ .return_ dX9_rise_87 rfl
      · skip
        have hbd := rise_bd (n := nn) (show i < cn by omega)
        refine j_aload_n hX 0 dX9_rise_10 rfl ?_
        refine j_pc 11 rfl ?_
        refine j_get hX in9 9 0 2 (v := .ref hh) rfl rfl (by decide) (List.mem_of_getElem? (i := 1) rfl) rfl rfl dX9_rise_11 ?_
        refine j_iload_n hX 1 dX9_rise_14 rfl ?_
        refine j_iload_n hX 2 dX9_rise_15 rfl ?_
        refine j_iload_n hX 3 dX9_rise_16 rfl ?_
        refine j_iload hX 4 dX9_rise_17 rfl ?_
        refine j_iload hX 6 dX9_rise_19 rfl ?_
        refine j_iaddN hX fst i dX9_rise_21 ?_
        refine j_callV hX 4 (c_start l g hh inr outr zo on sp fm nn ht lys fa mk sdr ly tr sda sd ina nl G kd ku kz (fst + i) (by omega) (by omega) hB) gX9_rise_X5_start (by decide +kernel) rfl ⟨rfl, rfl⟩ ⟨Nat.le_of_ble_eq_true rfl, Nat.le_of_ble_eq_true rfl⟩ 5 1 rfl rfl [1, 2, 3, 4, 5, 6] rfl (by decide) (fun _ => rfl) rfl [] rfl (Nat.le_of_ble_eq_true rfl) ⟨Nat.le_refl _, Nat.le_refl _⟩ dX9_rise_22 ?_
        intro F1 hF1
        try dsimp only at hF1
        refine j_w [oB te 9 [.ref lvl, .ref sp, .ref hh, .ref ch], oB hh 5 [.ref inr, .ref outr, .ref zo, .ref on, .ref sp, .ref sdr, .int (nI ly), .int (nI tr)], oB sp 8 [.int (nI fm), .int (nI nn), .int (nI ht), .int (nI lys), .int (nI fa), .int (nI mk)], oB sdr 7 [.ref sda, .int (nI 48)], bA g sda 48 sd, oB inr 7 [.ref ina, .int (nI (hl fm nn))], bA g ina 768 F1, oB outr 7 [.ref outa, .int (nI no1)], bA g outa 32 FO, oB zo 4 [.ref sa, .ref wa], iA g sa 8 S1, iA g wa 64 w1, oB on 3 [.ref aa, .ref ba], lA g aa 25 A1, lA g ba 25 B1, oB lvl 7 [.ref lvla, .int (nI nlv)], bA g lvla 256 L1] rfl ?_
        refine j_st [] rfl ?_
        refine j_pc 25 rfl ?_
        refine j_aload_n hX 0 dX9_rise_25 rfl ?_
        refine j_get hX in9 9 0 2 (v := .ref hh) rfl rfl (by decide) (List.mem_of_getElem? (i := 1) rfl) rfl rfl dX9_rise_26 ?_
        refine j_get hX in5 5 1 0 (v := .ref inr) rfl rfl (by decide) (List.mem_of_getElem? (i := 2) rfl) rfl rfl dX9_rise_29 ?_
        refine j_aload_n hX 0 dX9_rise_32 rfl ?_
        refine j_get hX in9 9 0 0 (v := .ref lvl) rfl rfl (by decide) (List.mem_of_getElem? (i := 3) rfl) rfl rfl dX9_rise_33 ?_
        refine j_iconst hX (2) dX9_rise_36 (by decide) ?_
        refine j_iload hX 6 dX9_rise_37 rfl ?_
        refine j_imulN hX 2 i dX9_rise_39 ?_
        refine j_pc 40 rfl ?_
        refine j_aload_n hX 0 dX9_rise_40 rfl ?_
        refine j_get hX in9 9 0 1 (v := .ref sp) rfl rfl (by decide) (List.mem_of_getElem? (i := 4) rfl) rfl rfl dX9_rise_41 ?_
        refine j_get hX in8 8 2 1 (v := .int (nI nn)) rfl rfl (by decide) (List.mem_of_getElem? (i := 5) rfl) rfl rfl dX9_rise_44 ?_
        refine j_imulN hX (2 * i) nn dX9_rise_47 ?_
        refine j_iconst hX (2) dX9_rise_48 (by decide) ?_
        refine j_aload_n hX 0 dX9_rise_49 rfl ?_
        refine j_get hX in9 9 0 1 (v := .ref sp) rfl rfl (by decide) (List.mem_of_getElem? (i := 4) rfl) rfl rfl dX9_rise_50 ?_
        refine j_get hX in8 8 2 1 (v := .int (nI nn)) rfl rfl (by decide) (List.mem_of_getElem? (i := 5) rfl) rfl rfl dX9_rise_53 ?_
        refine j_pc 56 rfl ?_
        refine j_imulN hX 2 nn dX9_rise_56 ?_
        refine j_callV hX 3 (c_add l g inr ina (hl fm nn) 768 F1 lvl lvla nlv 256 L1 ((2 * i) * nn) (2 * nn) (by omega) (by omega) (by omega) (by omega) hB2 (by omega) (by omega)) gX9_rise_X7_add (by decide +kernel) rfl ⟨rfl, rfl⟩ ⟨Nat.le_of_ble_eq_true rfl, Nat.le_of_ble_eq_true rfl⟩ 7 5 rfl rfl [5, 6, 15, 16] rfl (by decide) (fun _ => rfl) rfl [] rfl (Nat.le_of_ble_eq_true rfl) ⟨Nat.le_refl _, Nat.le_refl _⟩ dX9_rise_57 ?_
        intro F2 hF2
        try dsimp only at hF2
        refine j_w [oB te 9 [.ref lvl, .ref sp, .ref hh, .ref ch], oB hh 5 [.ref inr, .ref outr, .ref zo, .ref on, .ref sp, .ref sdr, .int (nI ly), .int (nI tr)], oB sp 8 [.int (nI fm), .int (nI nn), .int (nI ht), .int (nI lys), .int (nI fa), .int (nI mk)], oB sdr 7 [.ref sda, .int (nI 48)], bA g sda 48 sd, oB inr 7 [.ref ina, .int (nI ((hl fm nn) + (2 * nn)))], bA g ina 768 F2, oB outr 7 [.ref outa, .int (nI no1)], bA g outa 32 FO, oB zo 4 [.ref sa, .ref wa], iA g sa 8 S1, iA g wa 64 w1, oB on 3 [.ref aa, .ref ba], lA g aa 25 A1, lA g ba 25 B1, oB lvl 7 [.ref lvla, .int (nI nlv)], bA g lvla 256 L1] rfl ?_
        refine j_st [] rfl ?_
        refine j_aload_n hX 0 dX9_rise_60 rfl ?_
        refine j_get hX in9 9 0 2 (v := .ref hh) rfl rfl (by decide) (List.mem_of_getElem? (i := 1) rfl) rfl rfl dX9_rise_61 ?_
        refine j_aload_n hX 0 dX9_rise_64 rfl ?_
        refine j_get hX in9 9 0 0 (v := .ref lvl) rfl rfl (by decide) (List.mem_of_getElem? (i := 3) rfl) rfl rfl dX9_rise_65 ?_
        refine j_iload hX 6 dX9_rise_68 rfl ?_
        refine j_aload_n hX 0 dX9_rise_70 rfl ?_
        refine j_pc 71 rfl ?_
        refine j_get hX in9 9 0 1 (v := .ref sp) rfl rfl (by decide) (List.mem_of_getElem? (i := 4) rfl) rfl rfl dX9_rise_71 ?_
        refine j_get hX in8 8 2 1 (v := .int (nI nn)) rfl rfl (by decide) (List.mem_of_getElem? (i := 5) rfl) rfl rfl dX9_rise_74 ?_
        refine j_imulN hX i nn dX9_rise_77 ?_
        refine j_callV hX 2 (c_finish l g hh inr outr zo on sp fm nn ht lys fa mk sdr ly tr ina ((hl fm nn) + (2 * nn)) F2 outa no1 FO sa wa S1 w1 aa ba A1 B1 lvl lvla nlv 256 L1 (i * nn) (by omega) (by omega) (by omega) (by omega) hnl.2 hFO (by omega) (by omega) (by omega) (by omega)) gX9_rise_X5_finish (by decide +kernel) rfl ⟨rfl, rfl⟩ ⟨Nat.le_of_ble_eq_true rfl, Nat.le_of_ble_eq_true rfl⟩ 5 1 rfl rfl [1, 2, 5, 6, 7, 8, 9, 10, 11, 12, 13, 14, 15, 16] rfl (by decide) (fun _ => rfl) rfl [] rfl (Nat.le_of_ble_eq_true rfl) ⟨Nat.le_refl _, Nat.le_refl _⟩ dX9_rise_78 ?_
        rintro ⟨S7, w7, A7, B7, nl7, G7, FO7, TO7⟩ hE
        try dsimp only at hE
        refine j_w [oB te 9 [.ref lvl, .ref sp, .ref hh, .ref ch], oB hh 5 [.ref inr, .ref outr, .ref zo, .ref on, .ref sp, .ref sdr, .int (nI ly), .int (nI tr)], oB sp 8 [.int (nI fm), .int (nI nn), .int (nI ht), .int (nI lys), .int (nI fa), .int (nI mk)], oB sdr 7 [.ref sda, .int (nI 48)], bA g sda 48 sd, oB inr 7 [.ref ina, .int (nI nl7)], bA g ina 768 G7, oB outr 7 [.ref outa, .int (nI 32)], bA g outa 32 FO7, oB zo 4 [.ref sa, .ref wa], iA g sa 8 S7, iA g wa 64 w7, oB on 3 [.ref aa, .ref ba], lA g aa 25 A7, lA g ba 25 B7, oB lvl 7 [.ref lvla, .int (nI (max nlv ((i * nn) + nn)))], bA g lvla 256 TO7] rfl ?_
        refine j_st [] rfl ?_
        have hdl := hd_length (fm := fm) (n := nn) (by omega) sd ly tr kd ku kz (fst + i)
        rw [hF2, hF1, putL_app' (by rw [hdl, Nat.zero_add]), slice_put (by rw [List.length_append, hdl, slice_length])] at hE
        obtain ⟨hD9, hR9⟩ := rise_step (X := X) hnn (show i < cn by omega) hE.2.2 hD hR
        refine j_w [oB te 9 [.ref lvl, .ref sp, .ref hh, .ref ch], oB hh 5 [.ref inr, .ref outr, .ref zo, .ref on, .ref sp, .ref sdr, .int (nI ly), .int (nI tr)], oB sp 8 [.int (nI fm), .int (nI nn), .int (nI ht), .int (nI lys), .int (nI fa), .int (nI mk)], oB sdr 7 [.ref sda, .int (nI 48)], bA g sda 48 sd, oB inr 7 [.ref ina, .int (nI nl7)], bA g ina 768 G7, oB outr 7 [.ref outa, .int (nI 32)], bA g outa 32 FO7, oB zo 4 [.ref sa, .ref wa], iA g sa 8 S7, iA g wa 64 w7, oB on 3 [.ref aa, .ref ba], lA g aa 25 A7, lA g ba 25 B7, oB lvl 7 [.ref lvla, .int (nI nlv)], bA g lvla 256 TO7] (by rw [show max nlv (i * nn + nn) = nlv by omega]) ?_
        refine j_iincN hX i (i + 1) [(6, .int (nI (i + 1))), (0, .ref te), (1, .int (nI kd)), (2, .int (nI ku)), (3, .int (nI kz)), (4, .int (nI fst)), (5, .int (nI cn))] 6 dX9_rise_81 rfl (nI_1 _) (by decide) rfl ?_
        refine j_goto hX 3 dX9_rise_84 (by decide) ?_
        refine j_perm [(0, .ref te), (1, .int (nI kd)), (2, .int (nI ku)), (3, .int (nI kz)), (4, .int (nI fst)), (5, .int (nI cn)), (6, .int (nI (i + 1)))] [1, 2, 3, 4, 5, 6, 0] rfl ?_
        exact ih_3 (i + 1) 32 S7 w7 A7 B7 nl7 G7 FO7 TO7 (by omega) (by omega) ⟨hE.1, Nat.le_refl _⟩ hE.2.1 (by rw [hE.2.2]; exact putL_B hB2 (TT_B _ _ _ _ _ _ _ _ _ _)) hD9 hR9
  refine j_perm [(0, .ref te), (1, .int (nI kd)), (2, .int (nI ku)), (3, .int (nI kz)), (4, .int (nI fst)), (5, .int (nI cn)), (6, .int (nI 0))] [1, 2, 3, 4, 5, 6, 0] rfl ?_
  exact lp_1 _ 0 no S0 w0 A0 B0 ni fi fo lf (Nat.lt_succ_self _) (by omega) ⟨hni0, hno⟩ hBo hLB (fun j hj => absurd hj (Nat.not_lt_zero j)) (fun j _ hj => hX0 j hj)

set_option maxHeartbeats 1000000 in
set_option maxRecDepth 100000 in
/-- Trees.climb -/
theorem c_climb (l : Launch) (g : jG) (te : Nat) (lvl : Nat) (ch : Nat) (hh : Nat) (inr : Nat) (outr : Nat) (zo : Nat) (on : Nat) (sp : Nat) (fm : Nat) (nn : Nat) (ht : Nat) (lys : Nat) (fa : Nat) (mk : Nat) (sdr : Nat) (ly : Nat) (tr : Nat) (sda : Nat) (sd : Nat → Int32) (ina : Nat) (ni : Nat) (fi : Nat → Int32) (outa : Nat) (no : Nat) (fo : Nat → Int32) (sa : Nat) (wa : Nat) (S0 : Nat → Int32) (w0 : Nat → Int32) (aa : Nat) (ba : Nat) (A0 : Nat → Int64) (B0 : Nat → Int64) (lvla : Nat) (nlv : Nat) (lf : Nat → Int32) (hfm : fm < 2) (hnn : nn ≤ 16) (hB : isB sd) (hno : no ≤ 32) (hBo : isB fo) (hni0 : ni ≤ 768) (hht : ht ≤ 2) (hlv : nlv ≤ 256) (hcap : 2 ^ ht * nn ≤ nlv) (hLB : isB lf) (hX0 : ∀ j, j < 2 ^ ht → slice lf (j * nn) nn = LF fm nn sd ly tr j) : jC l g yX9_climb wsX9_climb ({ frames := 4, cells := 0, slots := 0, locals := 116 } : Room) [.ref te] [oB te 9 [.ref lvl, .ref sp, .ref hh, .ref ch], oB hh 5 [.ref inr, .ref outr, .ref zo, .ref on, .ref sp, .ref sdr, .int (nI ly), .int (nI tr)], oB sp 8 [.int (nI fm), .int (nI nn), .int (nI ht), .int (nI lys), .int (nI fa), .int (nI mk)], oB sdr 7 [.ref sda, .int (nI 48)], bA g sda 48 sd, oB inr 7 [.ref ina, .int (nI ni)], bA g ina 768 fi, oB outr 7 [.ref outa, .int (nI no)], bA g outa 32 fo, oB zo 4 [.ref sa, .ref wa], iA g sa 8 S0, iA g wa 64 w0, oB on 3 [.ref aa, .ref ba], lA g aa 25 A0, lA g ba 25 B0, oB lvl 7 [.ref lvla, .int (nI nlv)], bA g lvla 256 lf] (fun jj : Nat × (Nat → Int32) × (Nat → Int32) × (Nat → Int64) × (Nat → Int64) × Nat × (Nat → Int32) × (Nat → Int32) × (Nat → Int32) => none) (fun jj : Nat × (Nat → Int32) × (Nat → Int32) × (Nat → Int64) × (Nat → Int64) × Nat × (Nat → Int32) × (Nat → Int32) × (Nat → Int32) => (jj.2.2.2.2.2.1 ≤ 768 ∧ jj.1 ≤ 32) ∧ isB jj.2.2.2.2.2.2.2.1 ∧ isB jj.2.2.2.2.2.2.2.2 ∧ slice jj.2.2.2.2.2.2.2.2 0 nn = ND fm nn sd ly tr ht 0) (fun jj : Nat × (Nat → Int32) × (Nat → Int32) × (Nat → Int64) × (Nat → Int64) × Nat × (Nat → Int32) × (Nat → Int32) × (Nat → Int32) => [oB te 9 [.ref lvl, .ref sp, .ref hh, .ref ch], oB hh 5 [.ref inr, .ref outr, .ref zo, .ref on, .ref sp, .ref sdr, .int (nI ly), .int (nI tr)], oB sp 8 [.int (nI fm), .int (nI nn), .int (nI ht), .int (nI lys), .int (nI fa), .int (nI mk)], oB sdr 7 [.ref sda, .int (nI 48)], bA g sda 48 sd, oB inr 7 [.ref ina, .int (nI jj.2.2.2.2.2.1)], bA g ina 768 jj.2.2.2.2.2.2.1, oB outr 7 [.ref outa, .int (nI jj.1)], bA g outa 32 jj.2.2.2.2.2.2.2.1, oB zo 4 [.ref sa, .ref wa], iA g sa 8 jj.2.1, iA g wa 64 jj.2.2.1, oB on 3 [.ref aa, .ref ba], lA g aa 25 jj.2.2.2.1, lA g ba 25 jj.2.2.2.2.1, oB lvl 7 [.ref lvla, .int (nI nlv)], bA g lvla 256 jj.2.2.2.2.2.2.2.2]) := by
  refine jC.of (cc := cX9_climb) (own := RX9) (maxL := 2) (ret := none) (by decide +kernel) rfl rfl (Nat.le_of_ble_eq_true rfl) (fun u hu => rfl) ?_
  intro p e s m below meth c A Q hX hret
  have in8 : ∀ w ∈ wsX80, w ∈ wsX9_climb := (fun w h => List.mem_cons_of_mem _ (List.mem_append_left _ (List.mem_append_left _ (List.mem_append_left _ (List.mem_append_left _ (List.mem_append_right _ h))))))
  have in9 : ∀ w ∈ wsX90, w ∈ wsX9_climb := (fun w h => List.mem_cons_of_mem _ (List.mem_append_left _ (List.mem_append_left _ (List.mem_append_left _ (List.mem_append_left _ (List.mem_append_left _ (List.mem_append_right _ h)))))))
  refine j_iconst hX (1) dX9_climb_0 (by decide) ?_
  refine j_st [.int (nI 1)] rfl ?_
  refine j_istore_n hX 1 [(1, .int (nI 1)), (0, .ref te)] dX9_climb_1 rfl (by decide) rfl ?_
  have lp_1 : ∀ (n_2 : Nat) (z : Nat) (q : Nat) (no1 : Nat) (S1 : Nat → Int32) (w1 : Nat → Int32) (A1 : Nat → Int64) (B1 : Nat → Int64) (nl : Nat) (G : Nat → Int32) (FO : Nat → Int32) (L1 : Nat → Int32), (ht - q < n_2) → (z = q + 1) → (q ≤ ht) → (nl ≤ 768 ∧ no1 ≤ 32) → (isB FO) → (isB L1) → (∀ j, j < 2 ^ (ht - q) → slice L1 (j * nn) nn = ND fm nn sd ly tr q j) → J p l e ({ frames := 4, cells := 0, slots := 0, locals := 116 } : Room) s m ([.ref te] : List Value).toArray below meth c g A 2 Q 0 0 [oB te 9 [.ref lvl, .ref sp, .ref hh, .ref ch], oB hh 5 [.ref inr, .ref outr, .ref zo, .ref on, .ref sp, .ref sdr, .int (nI ly), .int (nI tr)], oB sp 8 [.int (nI fm), .int (nI nn), .int (nI ht), .int (nI lys), .int (nI fa), .int (nI mk)], oB sdr 7 [.ref sda, .int (nI 48)], bA g sda 48 sd, oB inr 7 [.ref ina, .int (nI nl)], bA g ina 768 G, oB outr 7 [.ref outa, .int (nI no1)], bA g outa 32 FO, oB zo 4 [.ref sa, .ref wa], iA g sa 8 S1, iA g wa 64 w1, oB on 3 [.ref aa, .ref ba], lA g aa 25 A1, lA g ba 25 B1, oB lvl 7 [.ref lvla, .int (nI nlv)], bA g lvla 256 L1] [(0, .ref te), (1, .int (nI z))] 2 [] := by
    intro n_2
    induction n_2 with
    | zero => intro z q no1 S1 w1 A1 B1 nl G FO L1 hm; exact absurd hm (Nat.not_lt_zero _)
    | succ n_2 ih_3 =>
      intro z q no1 S1 w1 A1 B1 nl G FO L1 hm hz hq hnl hFO hB2 hL
      refine j_iload_n hX 1 dX9_climb_2 rfl ?_
      refine j_aload_n hX 0 dX9_climb_3 rfl ?_
      refine j_get hX in9 9 0 1 (v := .ref sp) rfl rfl (by decide) (List.mem_of_getElem? (i := 1) rfl) rfl rfl dX9_climb_4 ?_
      refine j_get hX in8 8 2 2 (v := .int (nI ht)) rfl rfl (by decide) (List.mem_of_getElem? (i := 2) rfl) rfl rfl dX9_climb_7 ?_
      refine j_icmp_gtN hX z ht 38 dX9_climb_10 (by decide) (by omega) (by omega) (fun b_10 => ?_) (fun b_10 => ?_)
      · skip
        refine j_pc 38 rfl ?_
        exact hret (no1, S1, w1, A1, B1, nl, G, FO, L1) (by dsimp only; have h9 := hL 0 (Nat.two_pow_pos _); rw [Nat.zero_mul, show q = ht by omega] at h9; exact ⟨hnl, hFO, hB2, h9⟩) 38 _ .return_ dX9_climb_38 rfl
      · skip
        have hp2 : 2 * (1 * 2 ^ (ht - z)) = 2 ^ (ht - q) := by rw [hz]; exact two_pow_sub (show q < ht by omega)
        refine j_aload_n hX 0 dX9_climb_13 rfl ?_
        refine j_iconst hX (2) dX9_climb_14 (by decide) ?_
        refine j_iconst hX (0) dX9_climb_15 (by decide) ?_
        refine j_iload_n hX 1 dX9_climb_16 rfl ?_
        refine j_iconst hX (0) dX9_climb_17 (by decide) ?_
        refine j_iconst hX (1) dX9_climb_18 (by decide) ?_
        refine j_aload_n hX 0 dX9_climb_19 rfl ?_
        refine j_pc 20 rfl ?_
        refine j_get hX in9 9 0 1 (v := .ref sp) rfl rfl (by decide) (List.mem_of_getElem? (i := 1) rfl) rfl rfl dX9_climb_20 ?_
        refine j_get hX in8 8 2 2 (v := .int (nI ht)) rfl rfl (by decide) (List.mem_of_getElem? (i := 2) rfl) rfl rfl dX9_climb_23 ?_
        refine j_iload_n hX 1 dX9_climb_26 rfl ?_
        refine j_isubN hX ht z (by omega) dX9_climb_27 ?_
        refine j_ishlN hX 1 (ht - z) (by omega) (pw2 (by omega)) dX9_climb_28 ?_
        refine j_callV hX 5 (c_rise l g te lvl ch hh inr outr zo on sp fm nn ht lys fa mk sdr ly tr sda sd ina nl G outa no1 FO sa wa S1 w1 aa ba A1 B1 lvla nlv L1 2 0 z 0 (1 * 2 ^ (ht - z)) (ND fm nn sd ly tr q) (by omega) (by omega) hB hnl.2 hFO hnl.1 (by omega) (by rw [hp2]; exact Nat.le_trans (pow_sub_le ht q nn) hcap) hB2 (by have h3 : 2 ^ (ht - z) ≤ 2 ^ 2 := Nat.pow_le_pow_right (by decide) (by omega); omega) (by rw [hp2]; exact hL)) gX9_climb_X9_rise (by decide +kernel) rfl ⟨rfl, rfl⟩ ⟨Nat.le_of_ble_eq_true rfl, Nat.le_of_ble_eq_true rfl⟩ 9 0 rfl rfl [0, 1, 2, 3, 4, 5, 6, 7, 8, 9, 10, 11, 12, 13, 14, 15, 16] rfl (by decide) (fun _ => rfl) rfl [] rfl (Nat.le_of_ble_eq_true rfl) ⟨Nat.le_refl _, Nat.le_refl _⟩ dX9_climb_29 ?_
        rintro ⟨no8, S8, w8_, A8, B8, nl8, G8, FO8, L8⟩ hE
        try dsimp only at hE
        refine j_w [oB te 9 [.ref lvl, .ref sp, .ref hh, .ref ch], oB hh 5 [.ref inr, .ref outr, .ref zo, .ref on, .ref sp, .ref sdr, .int (nI ly), .int (nI tr)], oB sp 8 [.int (nI fm), .int (nI nn), .int (nI ht), .int (nI lys), .int (nI fa), .int (nI mk)], oB sdr 7 [.ref sda, .int (nI 48)], bA g sda 48 sd, oB inr 7 [.ref ina, .int (nI nl8)], bA g ina 768 G8, oB outr 7 [.ref outa, .int (nI no8)], bA g outa 32 FO8, oB zo 4 [.ref sa, .ref wa], iA g sa 8 S8, iA g wa 64 w8_, oB on 3 [.ref aa, .ref ba], lA g aa 25 A8, lA g ba 25 B8, oB lvl 7 [.ref lvla, .int (nI nlv)], bA g lvla 256 L8] rfl ?_
        refine j_st [] rfl ?_
        refine j_iincN hX z (z + 1) [(1, .int (nI (z + 1))), (0, .ref te)] 1 dX9_climb_32 rfl (nI_1 _) (by decide) rfl ?_
        refine j_goto hX 2 dX9_climb_35 (by decide) ?_
        refine j_perm [(0, .ref te), (1, .int (nI (z + 1)))] [1, 0] rfl ?_
        exact ih_3 (z + 1) (q + 1) no8 S8 w8_ A8 B8 nl8 G8 FO8 L8 (by omega) (by omega) (by omega) hE.1 hE.2.1 hE.2.2.1 (fun j hj => by have h9 := hE.2.2.2 j (by rw [Nat.one_mul, hz]; exact hj); rw [Nat.zero_add, hz] at h9; exact h9)
  refine j_perm [(0, .ref te), (1, .int (nI 1))] [1, 0] rfl ?_
  exact lp_1 _ 1 0 no S0 w0 A0 B0 ni fi fo lf (Nat.lt_succ_self _) (by omega) (by omega) ⟨hni0, hno⟩ hBo hLB hX0

