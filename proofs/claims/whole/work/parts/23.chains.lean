/-- the leaves that are kept -/
def cache (fm nn : Nat) (sd lvs kn : Nat → Int32) : Prop := ∀ i, i < 32 → kn i ≠ 0 → slice lvs (16 * i) nn = LF fm nn sd (i / 16) (i / 4 % 4) (i % 4)
theorem cache_put {fm nn : Nat} {sd lvs kn L2 : Nat → Int32} {ly tr u : Nat} {x : Int32} (h : cache fm nn sd lvs kn) (hn : nn ≤ 16) (hly : ly < 2) (htr : tr < 4) (hu : u < 4) (hL : L2 = putL lvs ((ly * 16 + tr * 4 + u) * 16) (LF fm nn sd ly tr u)) : cache fm nn sd L2 (upd kn (ly * 16 + tr * 4 + u) x) ∧ slice L2 ((ly * 16 + tr * 4 + u) * 16) nn = LF fm nn sd ly tr u := by
  have hs : slice L2 ((ly * 16 + tr * 4 + u) * 16) nn = LF fm nn sd ly tr u := by rw [hL, slice_put (by rw [LF_length (by omega)])]
  refine ⟨fun i hi hk => ?_, hs⟩
  by_cases e : i = ly * 16 + tr * 4 + u
  · subst e
    rw [show (ly * 16 + tr * 4 + u) / 16 = ly by omega, show (ly * 16 + tr * 4 + u) / 4 % 4 = tr by omega, show (ly * 16 + tr * 4 + u) % 4 = u by omega, Nat.mul_comm 16]
    exact hs
  · unfold upd at hk
    rw [if_neg e] at hk
    rw [← h i hi hk]
    apply slice_congr
    intro j hj
    rw [hL, putL_out (by rw [LF_length (by omega)]; omega)]
theorem cache_get {fm nn : Nat} {sd lvs kn : Nat → Int32} {ly tr u : Nat} (h : cache fm nn sd lvs kn) (hly : ly < 2) (htr : tr < 4) (hu : u < 4) (hk : ¬ kn (ly * 16 + tr * 4 + u) = 0) : slice lvs ((ly * 16 + tr * 4 + u) * 16) nn = LF fm nn sd ly tr u := by
  have := h (ly * 16 + tr * 4 + u) (by omega) hk
  rw [show (ly * 16 + tr * 4 + u) / 16 = ly by omega, show (ly * 16 + tr * 4 + u) / 4 % 4 = tr by omega, show (ly * 16 + tr * 4 + u) % 4 = u by omega, Nat.mul_comm 16] at this
  exact this
theorem hl_or (fm nn : Nat) : fm = 0 ∨ hl fm nn = nn + 32 := by unfold hl; split <;> omega
theorem dgt_hi {f : Nat → Int32} {n i q : Nat} (h : 2 * n ≤ i) (hq : i + q + 1 = ln n) : dgt f n i = cs f (2 * n) / 16 ^ q % 16 := by
  rw [dgt, if_neg (by omega), show ln n - 1 - i = q by omega]

theorem dX0_forgetLeaves_0 : decode cX0_forgetLeaves 0 = .ok (.iconst 0, 1) := by decide +kernel
theorem dX0_forgetLeaves_1 : decode cX0_forgetLeaves 1 = .ok (.istore_n 1, 1) := by decide +kernel
theorem dX0_forgetLeaves_2 : decode cX0_forgetLeaves 2 = .ok (.iload_n 1, 1) := by decide +kernel
theorem dX0_forgetLeaves_3 : decode cX0_forgetLeaves 3 = .ok (.bipush 32, 2) := by decide +kernel
theorem dX0_forgetLeaves_5 : decode cX0_forgetLeaves 5 = .ok (.if_icmp .ge 16, 3) := by decide +kernel
theorem dX0_forgetLeaves_8 : decode cX0_forgetLeaves 8 = .ok (.aload_n 0, 1) := by decide +kernel
theorem dX0_forgetLeaves_9 : decode cX0_forgetLeaves 9 = .ok (.getfield 20, 3) := by decide +kernel
theorem dX0_forgetLeaves_12 : decode cX0_forgetLeaves 12 = .ok (.iload_n 1, 1) := by decide +kernel
theorem dX0_forgetLeaves_13 : decode cX0_forgetLeaves 13 = .ok (.iconst 0, 1) := by decide +kernel
theorem dX0_forgetLeaves_14 : decode cX0_forgetLeaves 14 = .ok (.bastore, 1) := by decide +kernel
theorem dX0_forgetLeaves_15 : decode cX0_forgetLeaves 15 = .ok (.iinc 1 1, 3) := by decide +kernel
theorem dX0_forgetLeaves_18 : decode cX0_forgetLeaves 18 = .ok (.goto (-16), 3) := by decide +kernel
theorem dX0_forgetLeaves_21 : decode cX0_forgetLeaves 21 = .ok (.return_, 1) := by decide +kernel
theorem dX0_leafNumber_0 : decode cX0_leafNumber 0 = .ok (.iload_n 0, 1) := by decide +kernel
theorem dX0_leafNumber_1 : decode cX0_leafNumber 1 = .ok (.bipush 16, 2) := by decide +kernel
theorem dX0_leafNumber_3 : decode cX0_leafNumber 3 = .ok (.imul, 1) := by decide +kernel
theorem dX0_leafNumber_4 : decode cX0_leafNumber 4 = .ok (.iload_n 1, 1) := by decide +kernel
theorem dX0_leafNumber_5 : decode cX0_leafNumber 5 = .ok (.iconst 4, 1) := by decide +kernel
theorem dX0_leafNumber_6 : decode cX0_leafNumber 6 = .ok (.imul, 1) := by decide +kernel
theorem dX0_leafNumber_7 : decode cX0_leafNumber 7 = .ok (.iadd, 1) := by decide +kernel
theorem dX0_leafNumber_8 : decode cX0_leafNumber 8 = .ok (.iload_n 2, 1) := by decide +kernel
theorem dX0_leafNumber_9 : decode cX0_leafNumber 9 = .ok (.iadd, 1) := by decide +kernel
theorem dX0_leafNumber_10 : decode cX0_leafNumber 10 = .ok (.ireturn, 1) := by decide +kernel
set_option maxRecDepth 20000 in
theorem ggX0_leafStart_X0_leafNumber : GoodIn wsX0_leafStart wsX0_leafNumber := goodIn_r _ [4] rfl (by decide +kernel)
set_option maxRecDepth 20000 in
theorem gX0_leafStart_X0_leafNumber : GoodIn wsX0_leafStart (va_wsS RX0 43 yX0_leafNumber wsX0_leafNumber) := goodIn_app (goodIn_of _ (by decide +kernel)) ggX0_leafStart_X0_leafNumber
theorem dX0_leafStart_0 : decode cX0_leafStart 0 = .ok (.iload_n 0, 1) := by decide +kernel
theorem dX0_leafStart_1 : decode cX0_leafStart 1 = .ok (.iload_n 1, 1) := by decide +kernel
theorem dX0_leafStart_2 : decode cX0_leafStart 2 = .ok (.iload_n 2, 1) := by decide +kernel
theorem dX0_leafStart_3 : decode cX0_leafStart 3 = .ok (.invokestatic 43, 3) := by decide +kernel
theorem dX0_leafStart_6 : decode cX0_leafStart 6 = .ok (.bipush 16, 2) := by decide +kernel
theorem dX0_leafStart_8 : decode cX0_leafStart 8 = .ok (.imul, 1) := by decide +kernel
theorem dX0_leafStart_9 : decode cX0_leafStart 9 = .ok (.ireturn, 1) := by decide +kernel
set_option maxRecDepth 20000 in
theorem ggX0_readDigits_X7_at : GoodIn wsX0_readDigits wsX7_at := goodIn_r _ [8, 9, 10, 29, 30] rfl (by decide +kernel)
set_option maxRecDepth 20000 in
theorem gX0_readDigits_X7_at : GoodIn wsX0_readDigits (wsV RX0 99 RX7 yX7_at wsX7_at) := goodIn_app (goodIn_of _ (by decide +kernel)) ggX0_readDigits_X7_at
set_option maxRecDepth 20000 in
theorem ggX0_readDigits_X8_len : GoodIn wsX0_readDigits wsX8_len := goodIn_r _ [15, 16, 23, 24, 25, 26, 27, 28] rfl (by decide +kernel)
set_option maxRecDepth 20000 in
theorem gX0_readDigits_X8_len : GoodIn wsX0_readDigits (wsV RX0 56 RX8 yX8_len wsX8_len) := goodIn_app (goodIn_of _ (by decide +kernel)) ggX0_readDigits_X8_len
theorem dX0_readDigits_0 : decode cX0_readDigits 0 = .ok (.iconst 0, 1) := by decide +kernel
theorem dX0_readDigits_1 : decode cX0_readDigits 1 = .ok (.istore_n 2, 1) := by decide +kernel
theorem dX0_readDigits_2 : decode cX0_readDigits 2 = .ok (.iconst 0, 1) := by decide +kernel
theorem dX0_readDigits_3 : decode cX0_readDigits 3 = .ok (.istore_n 3, 1) := by decide +kernel
theorem dX0_readDigits_4 : decode cX0_readDigits 4 = .ok (.iload_n 3, 1) := by decide +kernel
theorem dX0_readDigits_5 : decode cX0_readDigits 5 = .ok (.iconst 2, 1) := by decide +kernel
theorem dX0_readDigits_6 : decode cX0_readDigits 6 = .ok (.aload_n 0, 1) := by decide +kernel
theorem dX0_readDigits_7 : decode cX0_readDigits 7 = .ok (.getfield 31, 3) := by decide +kernel
theorem dX0_readDigits_10 : decode cX0_readDigits 10 = .ok (.getfield 66, 3) := by decide +kernel
theorem dX0_readDigits_13 : decode cX0_readDigits 13 = .ok (.imul, 1) := by decide +kernel
theorem dX0_readDigits_14 : decode cX0_readDigits 14 = .ok (.if_icmp .ge 49, 3) := by decide +kernel
theorem dX0_readDigits_17 : decode cX0_readDigits 17 = .ok (.aload_n 0, 1) := by decide +kernel
theorem dX0_readDigits_18 : decode cX0_readDigits 18 = .ok (.getfield 24, 3) := by decide +kernel
theorem dX0_readDigits_21 : decode cX0_readDigits 21 = .ok (.iload_n 3, 1) := by decide +kernel
theorem dX0_readDigits_22 : decode cX0_readDigits 22 = .ok (.aload_n 1, 1) := by decide +kernel
theorem dX0_readDigits_23 : decode cX0_readDigits 23 = .ok (.iload_n 3, 1) := by decide +kernel
theorem dX0_readDigits_24 : decode cX0_readDigits 24 = .ok (.iconst 2, 1) := by decide +kernel
theorem dX0_readDigits_25 : decode cX0_readDigits 25 = .ok (.idiv, 1) := by decide +kernel
theorem dX0_readDigits_26 : decode cX0_readDigits 26 = .ok (.invokevirtual 99, 3) := by decide +kernel
theorem dX0_readDigits_29 : decode cX0_readDigits 29 = .ok (.iload_n 3, 1) := by decide +kernel
theorem dX0_readDigits_30 : decode cX0_readDigits 30 = .ok (.iconst 2, 1) := by decide +kernel
theorem dX0_readDigits_31 : decode cX0_readDigits 31 = .ok (.irem, 1) := by decide +kernel
theorem dX0_readDigits_32 : decode cX0_readDigits 32 = .ok (.ifCond .ne 7, 3) := by decide +kernel
theorem dX0_readDigits_35 : decode cX0_readDigits 35 = .ok (.iconst 4, 1) := by decide +kernel
theorem dX0_readDigits_36 : decode cX0_readDigits 36 = .ok (.goto 4, 3) := by decide +kernel
theorem dX0_readDigits_39 : decode cX0_readDigits 39 = .ok (.iconst 0, 1) := by decide +kernel
theorem dX0_readDigits_40 : decode cX0_readDigits 40 = .ok (.ishr, 1) := by decide +kernel
theorem dX0_readDigits_41 : decode cX0_readDigits 41 = .ok (.bipush 15, 2) := by decide +kernel
theorem dX0_readDigits_43 : decode cX0_readDigits 43 = .ok (.iand, 1) := by decide +kernel
theorem dX0_readDigits_44 : decode cX0_readDigits 44 = .ok (.iastore, 1) := by decide +kernel
theorem dX0_readDigits_45 : decode cX0_readDigits 45 = .ok (.iload_n 2, 1) := by decide +kernel
theorem dX0_readDigits_46 : decode cX0_readDigits 46 = .ok (.bipush 15, 2) := by decide +kernel
theorem dX0_readDigits_48 : decode cX0_readDigits 48 = .ok (.aload_n 0, 1) := by decide +kernel
theorem dX0_readDigits_49 : decode cX0_readDigits 49 = .ok (.getfield 24, 3) := by decide +kernel
theorem dX0_readDigits_52 : decode cX0_readDigits 52 = .ok (.iload_n 3, 1) := by decide +kernel
theorem dX0_readDigits_53 : decode cX0_readDigits 53 = .ok (.iaload, 1) := by decide +kernel
theorem dX0_readDigits_54 : decode cX0_readDigits 54 = .ok (.isub, 1) := by decide +kernel
theorem dX0_readDigits_55 : decode cX0_readDigits 55 = .ok (.iadd, 1) := by decide +kernel
theorem dX0_readDigits_56 : decode cX0_readDigits 56 = .ok (.istore_n 2, 1) := by decide +kernel
theorem dX0_readDigits_57 : decode cX0_readDigits 57 = .ok (.iinc 3 1, 3) := by decide +kernel
theorem dX0_readDigits_60 : decode cX0_readDigits 60 = .ok (.goto (-56), 3) := by decide +kernel
theorem dX0_readDigits_63 : decode cX0_readDigits 63 = .ok (.aload_n 0, 1) := by decide +kernel
theorem dX0_readDigits_64 : decode cX0_readDigits 64 = .ok (.getfield 31, 3) := by decide +kernel
theorem dX0_readDigits_67 : decode cX0_readDigits 67 = .ok (.invokevirtual 56, 3) := by decide +kernel
theorem dX0_readDigits_70 : decode cX0_readDigits 70 = .ok (.iconst 1, 1) := by decide +kernel
theorem dX0_readDigits_71 : decode cX0_readDigits 71 = .ok (.isub, 1) := by decide +kernel
theorem dX0_readDigits_72 : decode cX0_readDigits 72 = .ok (.istore_n 3, 1) := by decide +kernel
theorem dX0_readDigits_73 : decode cX0_readDigits 73 = .ok (.iload_n 3, 1) := by decide +kernel
theorem dX0_readDigits_74 : decode cX0_readDigits 74 = .ok (.iconst 2, 1) := by decide +kernel
theorem dX0_readDigits_75 : decode cX0_readDigits 75 = .ok (.aload_n 0, 1) := by decide +kernel
theorem dX0_readDigits_76 : decode cX0_readDigits 76 = .ok (.getfield 31, 3) := by decide +kernel
theorem dX0_readDigits_79 : decode cX0_readDigits 79 = .ok (.getfield 66, 3) := by decide +kernel
theorem dX0_readDigits_82 : decode cX0_readDigits 82 = .ok (.imul, 1) := by decide +kernel
theorem dX0_readDigits_83 : decode cX0_readDigits 83 = .ok (.if_icmp .lt 23, 3) := by decide +kernel
theorem dX0_readDigits_86 : decode cX0_readDigits 86 = .ok (.aload_n 0, 1) := by decide +kernel
theorem dX0_readDigits_87 : decode cX0_readDigits 87 = .ok (.getfield 24, 3) := by decide +kernel
theorem dX0_readDigits_90 : decode cX0_readDigits 90 = .ok (.iload_n 3, 1) := by decide +kernel
theorem dX0_readDigits_91 : decode cX0_readDigits 91 = .ok (.iload_n 2, 1) := by decide +kernel
theorem dX0_readDigits_92 : decode cX0_readDigits 92 = .ok (.bipush 15, 2) := by decide +kernel
theorem dX0_readDigits_94 : decode cX0_readDigits 94 = .ok (.iand, 1) := by decide +kernel
theorem dX0_readDigits_95 : decode cX0_readDigits 95 = .ok (.iastore, 1) := by decide +kernel
theorem dX0_readDigits_96 : decode cX0_readDigits 96 = .ok (.iload_n 2, 1) := by decide +kernel
theorem dX0_readDigits_97 : decode cX0_readDigits 97 = .ok (.iconst 4, 1) := by decide +kernel
theorem dX0_readDigits_98 : decode cX0_readDigits 98 = .ok (.ishr, 1) := by decide +kernel
theorem dX0_readDigits_99 : decode cX0_readDigits 99 = .ok (.istore_n 2, 1) := by decide +kernel
theorem dX0_readDigits_100 : decode cX0_readDigits 100 = .ok (.iinc 3 (-1), 3) := by decide +kernel
theorem dX0_readDigits_103 : decode cX0_readDigits 103 = .ok (.goto (-30), 3) := by decide +kernel
theorem dX0_readDigits_106 : decode cX0_readDigits 106 = .ok (.return_, 1) := by decide +kernel
set_option maxRecDepth 20000 in
theorem ggX0_keepLeaf_X5_moveTo : GoodIn wsX0_keepLeaf wsX5_moveTo := goodIn_r _ [12, 13, 14, 161, 162, 163, 164, 165, 166, 167, 168] rfl (by decide +kernel)
set_option maxRecDepth 20000 in
theorem gX0_keepLeaf_X5_moveTo : GoodIn wsX0_keepLeaf (wsV RX0 47 RX5 yX5_moveTo wsX5_moveTo) := goodIn_app (goodIn_of _ (by decide +kernel)) ggX0_keepLeaf_X5_moveTo
set_option maxRecDepth 20000 in
theorem ggX0_keepLeaf_X0_leafNumber : GoodIn wsX0_keepLeaf wsX0_leafNumber := goodIn_r _ [18] rfl (by decide +kernel)
set_option maxRecDepth 20000 in
theorem gX0_keepLeaf_X0_leafNumber : GoodIn wsX0_keepLeaf (va_wsS RX0 43 yX0_leafNumber wsX0_leafNumber) := goodIn_app (goodIn_of _ (by decide +kernel)) ggX0_keepLeaf_X0_leafNumber
set_option maxRecDepth 20000 in
theorem ggX0_keepLeaf_X7_clear : GoodIn wsX0_keepLeaf wsX7_clear := goodIn_r _ [23, 24, 169, 170] rfl (by decide +kernel)
set_option maxRecDepth 20000 in
theorem gX0_keepLeaf_X7_clear : GoodIn wsX0_keepLeaf (wsV RX0 53 RX7 yX7_clear wsX7_clear) := goodIn_app (goodIn_of _ (by decide +kernel)) ggX0_keepLeaf_X7_clear
set_option maxRecDepth 20000 in
theorem ggX0_keepLeaf_X8_len : GoodIn wsX0_keepLeaf wsX8_len := goodIn_r _ [29, 30, 155, 156, 157, 158, 159, 160] rfl (by decide +kernel)
set_option maxRecDepth 20000 in
theorem gX0_keepLeaf_X8_len : GoodIn wsX0_keepLeaf (wsV RX0 56 RX8 yX8_len wsX8_len) := goodIn_app (goodIn_of _ (by decide +kernel)) ggX0_keepLeaf_X8_len
set_option maxRecDepth 20000 in
theorem ggX0_keepLeaf_X5_addSecret : GoodIn wsX0_keepLeaf wsX5_addSecret := goodIn_r _ [34, 35, 36, 37, 38, 39, 40, 41, 42, 11, 43, 44, 13, 14, 45, 20, 21, 22, 23, 24, 46, 47, 48, 49, 50, 51, 52, 53, 54, 55, 56, 57, 58, 59, 60, 61, 62, 63, 64, 65, 66, 67, 68, 69, 70, 71, 72, 73, 74, 75, 76, 77, 78, 79, 80, 81, 82, 83, 84, 85, 86, 87, 88, 89, 90, 91, 92, 93, 94, 95, 96, 97, 98, 99, 100, 101, 102, 103, 104, 105, 106, 107, 108, 109, 110, 111, 112, 113, 114, 115, 116, 117, 118, 119, 120, 121, 122, 123, 124, 125, 126, 127, 128, 129, 130, 131, 132, 133, 134, 135, 136, 137, 138, 161, 162, 163, 164, 165, 166, 167, 168, 155, 156, 157, 158, 159, 160, 169, 170, 171, 172, 173, 174] rfl (by decide +kernel)
set_option maxRecDepth 20000 in
theorem gX0_keepLeaf_X5_addSecret : GoodIn wsX0_keepLeaf (wsV RX0 62 RX5 yX5_addSecret wsX5_addSecret) := goodIn_app (goodIn_of _ (by decide +kernel)) ggX0_keepLeaf_X5_addSecret
set_option maxRecDepth 20000 in
theorem ggX0_keepLeaf_X5_chain : GoodIn wsX0_keepLeaf wsX5_chain := goodIn_r _ [142, 35, 37, 38, 40, 41, 42, 11, 43, 44, 36, 13, 14, 45, 20, 21, 22, 23, 24, 46, 47, 48, 49, 50, 51, 52, 53, 54, 55, 56, 57, 58, 59, 60, 61, 62, 63, 64, 65, 66, 67, 68, 69, 70, 71, 72, 73, 74, 75, 76, 77, 78, 79, 80, 81, 82, 83, 84, 85, 86, 87, 88, 89, 90, 91, 92, 93, 94, 95, 96, 97, 98, 99, 100, 101, 102, 103, 104, 105, 106, 107, 108, 109, 110, 111, 112, 113, 114, 115, 116, 117, 118, 119, 120, 121, 122, 123, 124, 125, 126, 127, 128, 129, 130, 131, 132, 133, 134, 135, 136, 137, 138, 161, 162, 163, 164, 165, 166, 167, 168, 155, 156, 157, 158, 159, 160, 169, 170, 171, 172, 173, 174] rfl (by decide +kernel)
set_option maxRecDepth 20000 in
theorem gX0_keepLeaf_X5_chain : GoodIn wsX0_keepLeaf (wsV RX0 70 RX5 yX5_chain wsX5_chain) := goodIn_app (goodIn_of _ (by decide +kernel)) ggX0_keepLeaf_X5_chain
set_option maxRecDepth 20000 in
theorem ggX0_keepLeaf_X5_start : GoodIn wsX0_keepLeaf wsX5_start := goodIn_r _ [43, 37, 44, 35, 36, 38, 13, 14, 45, 20, 21, 22, 23, 24, 46, 47, 48, 49, 50, 51, 52, 53, 54, 55, 56, 57, 58, 59, 60, 61, 62, 161, 162, 163, 164, 165, 166, 167, 168, 155, 156, 157, 158, 159, 160, 169, 170] rfl (by decide +kernel)
set_option maxRecDepth 20000 in
theorem gX0_keepLeaf_X5_start : GoodIn wsX0_keepLeaf (wsV RX0 74 RX5 yX5_start wsX5_start) := goodIn_app (goodIn_of _ (by decide +kernel)) ggX0_keepLeaf_X5_start
set_option maxRecDepth 20000 in
theorem ggX0_keepLeaf_X7_addAll : GoodIn wsX0_keepLeaf wsX7_addAll := goodIn_r _ [147, 24, 67, 47, 48, 22, 49, 50, 51, 52, 53, 54, 55, 56, 57, 58, 169, 170] rfl (by decide +kernel)
set_option maxRecDepth 20000 in
theorem gX0_keepLeaf_X7_addAll : GoodIn wsX0_keepLeaf (wsV RX0 81 RX7 yX7_addAll wsX7_addAll) := goodIn_app (goodIn_of _ (by decide +kernel)) ggX0_keepLeaf_X7_addAll
set_option maxRecDepth 20000 in
theorem ggX0_keepLeaf_X5_finish : GoodIn wsX0_keepLeaf wsX5_finish := goodIn_r _ [71, 37, 44, 35, 72, 38, 73, 74, 75, 11, 76, 77, 78, 79, 80, 81, 82, 83, 84, 85, 86, 87, 88, 89, 90, 60, 61, 22, 62, 24, 50, 91, 92, 93, 94, 95, 96, 97, 98, 99, 100, 101, 102, 103, 104, 105, 106, 107, 108, 109, 110, 111, 112, 113, 114, 115, 116, 20, 21, 23, 117, 118, 119, 120, 121, 122, 123, 124, 125, 126, 127, 128, 129, 130, 131, 132, 133, 134, 135, 136, 137, 138, 46, 47, 48, 49, 51, 52, 53, 54, 55, 56, 57, 58, 161, 162, 163, 164, 165, 166, 167, 168, 155, 156, 157, 158, 159, 160, 169, 170, 171, 172, 173, 174] rfl (by decide +kernel)
set_option maxRecDepth 20000 in
theorem gX0_keepLeaf_X5_finish : GoodIn wsX0_keepLeaf (wsV RX0 85 RX5 yX5_finish wsX5_finish) := goodIn_app (goodIn_of _ (by decide +kernel)) ggX0_keepLeaf_X5_finish
theorem dX0_keepLeaf_0 : decode cX0_keepLeaf 0 = .ok (.aload_n 0, 1) := by decide +kernel
theorem dX0_keepLeaf_1 : decode cX0_keepLeaf 1 = .ok (.getfield 35, 3) := by decide +kernel
theorem dX0_keepLeaf_4 : decode cX0_keepLeaf 4 = .ok (.iload_n 1, 1) := by decide +kernel
theorem dX0_keepLeaf_5 : decode cX0_keepLeaf 5 = .ok (.iload_n 2, 1) := by decide +kernel
theorem dX0_keepLeaf_6 : decode cX0_keepLeaf 6 = .ok (.invokevirtual 47, 3) := by decide +kernel
theorem dX0_keepLeaf_9 : decode cX0_keepLeaf 9 = .ok (.iload_n 1, 1) := by decide +kernel
theorem dX0_keepLeaf_10 : decode cX0_keepLeaf 10 = .ok (.iload_n 2, 1) := by decide +kernel
theorem dX0_keepLeaf_11 : decode cX0_keepLeaf 11 = .ok (.iload_n 3, 1) := by decide +kernel
theorem dX0_keepLeaf_12 : decode cX0_keepLeaf 12 = .ok (.invokestatic 43, 3) := by decide +kernel
theorem dX0_keepLeaf_15 : decode cX0_keepLeaf 15 = .ok (.istore 4, 2) := by decide +kernel
theorem dX0_keepLeaf_17 : decode cX0_keepLeaf 17 = .ok (.iload 4, 2) := by decide +kernel
theorem dX0_keepLeaf_19 : decode cX0_keepLeaf 19 = .ok (.ifCond .lt 20, 3) := by decide +kernel
theorem dX0_keepLeaf_22 : decode cX0_keepLeaf 22 = .ok (.iload 4, 2) := by decide +kernel
theorem dX0_keepLeaf_24 : decode cX0_keepLeaf 24 = .ok (.bipush 32, 2) := by decide +kernel
theorem dX0_keepLeaf_26 : decode cX0_keepLeaf 26 = .ok (.if_icmp .ge 13, 3) := by decide +kernel
theorem dX0_keepLeaf_29 : decode cX0_keepLeaf 29 = .ok (.aload_n 0, 1) := by decide +kernel
theorem dX0_keepLeaf_30 : decode cX0_keepLeaf 30 = .ok (.getfield 20, 3) := by decide +kernel
theorem dX0_keepLeaf_33 : decode cX0_keepLeaf 33 = .ok (.iload 4, 2) := by decide +kernel
theorem dX0_keepLeaf_35 : decode cX0_keepLeaf 35 = .ok (.baload, 1) := by decide +kernel
theorem dX0_keepLeaf_36 : decode cX0_keepLeaf 36 = .ok (.ifCond .eq 4, 3) := by decide +kernel
theorem dX0_keepLeaf_39 : decode cX0_keepLeaf 39 = .ok (.return_, 1) := by decide +kernel
theorem dX0_keepLeaf_40 : decode cX0_keepLeaf 40 = .ok (.aload_n 0, 1) := by decide +kernel
theorem dX0_keepLeaf_41 : decode cX0_keepLeaf 41 = .ok (.getfield 28, 3) := by decide +kernel
theorem dX0_keepLeaf_44 : decode cX0_keepLeaf 44 = .ok (.invokevirtual 53, 3) := by decide +kernel
theorem dX0_keepLeaf_47 : decode cX0_keepLeaf 47 = .ok (.iconst 0, 1) := by decide +kernel
theorem dX0_keepLeaf_48 : decode cX0_keepLeaf 48 = .ok (.istore 5, 2) := by decide +kernel
theorem dX0_keepLeaf_50 : decode cX0_keepLeaf 50 = .ok (.iload 5, 2) := by decide +kernel
theorem dX0_keepLeaf_52 : decode cX0_keepLeaf 52 = .ok (.aload_n 0, 1) := by decide +kernel
theorem dX0_keepLeaf_53 : decode cX0_keepLeaf 53 = .ok (.getfield 31, 3) := by decide +kernel
theorem dX0_keepLeaf_56 : decode cX0_keepLeaf 56 = .ok (.invokevirtual 56, 3) := by decide +kernel
theorem dX0_keepLeaf_59 : decode cX0_keepLeaf 59 = .ok (.if_icmp .ge 52, 3) := by decide +kernel
theorem dX0_keepLeaf_62 : decode cX0_keepLeaf 62 = .ok (.aload_n 0, 1) := by decide +kernel
theorem dX0_keepLeaf_63 : decode cX0_keepLeaf 63 = .ok (.getfield 35, 3) := by decide +kernel
theorem dX0_keepLeaf_66 : decode cX0_keepLeaf 66 = .ok (.iconst 5, 1) := by decide +kernel
theorem dX0_keepLeaf_67 : decode cX0_keepLeaf 67 = .ok (.iload_n 3, 1) := by decide +kernel
theorem dX0_keepLeaf_68 : decode cX0_keepLeaf 68 = .ok (.iload 5, 2) := by decide +kernel
theorem dX0_keepLeaf_70 : decode cX0_keepLeaf 70 = .ok (.iconst 0, 1) := by decide +kernel
theorem dX0_keepLeaf_71 : decode cX0_keepLeaf 71 = .ok (.aload_n 0, 1) := by decide +kernel
theorem dX0_keepLeaf_72 : decode cX0_keepLeaf 72 = .ok (.getfield 28, 3) := by decide +kernel
theorem dX0_keepLeaf_75 : decode cX0_keepLeaf 75 = .ok (.invokevirtual 62, 3) := by decide +kernel
theorem dX0_keepLeaf_78 : decode cX0_keepLeaf 78 = .ok (.aload_n 0, 1) := by decide +kernel
theorem dX0_keepLeaf_79 : decode cX0_keepLeaf 79 = .ok (.getfield 35, 3) := by decide +kernel
theorem dX0_keepLeaf_82 : decode cX0_keepLeaf 82 = .ok (.aload_n 0, 1) := by decide +kernel
theorem dX0_keepLeaf_83 : decode cX0_keepLeaf 83 = .ok (.getfield 28, 3) := by decide +kernel
theorem dX0_keepLeaf_86 : decode cX0_keepLeaf 86 = .ok (.iload 5, 2) := by decide +kernel
theorem dX0_keepLeaf_88 : decode cX0_keepLeaf 88 = .ok (.aload_n 0, 1) := by decide +kernel
theorem dX0_keepLeaf_89 : decode cX0_keepLeaf 89 = .ok (.getfield 31, 3) := by decide +kernel
theorem dX0_keepLeaf_92 : decode cX0_keepLeaf 92 = .ok (.getfield 66, 3) := by decide +kernel
theorem dX0_keepLeaf_95 : decode cX0_keepLeaf 95 = .ok (.imul, 1) := by decide +kernel
theorem dX0_keepLeaf_96 : decode cX0_keepLeaf 96 = .ok (.iconst 0, 1) := by decide +kernel
theorem dX0_keepLeaf_97 : decode cX0_keepLeaf 97 = .ok (.bipush 15, 2) := by decide +kernel
theorem dX0_keepLeaf_99 : decode cX0_keepLeaf 99 = .ok (.iload_n 3, 1) := by decide +kernel
theorem dX0_keepLeaf_100 : decode cX0_keepLeaf 100 = .ok (.iload 5, 2) := by decide +kernel
theorem dX0_keepLeaf_102 : decode cX0_keepLeaf 102 = .ok (.invokevirtual 70, 3) := by decide +kernel
theorem dX0_keepLeaf_105 : decode cX0_keepLeaf 105 = .ok (.iinc 5 1, 3) := by decide +kernel
theorem dX0_keepLeaf_108 : decode cX0_keepLeaf 108 = .ok (.goto (-58), 3) := by decide +kernel
theorem dX0_keepLeaf_111 : decode cX0_keepLeaf 111 = .ok (.aload_n 0, 1) := by decide +kernel
theorem dX0_keepLeaf_112 : decode cX0_keepLeaf 112 = .ok (.getfield 35, 3) := by decide +kernel
theorem dX0_keepLeaf_115 : decode cX0_keepLeaf 115 = .ok (.iconst 1, 1) := by decide +kernel
theorem dX0_keepLeaf_116 : decode cX0_keepLeaf 116 = .ok (.iload_n 3, 1) := by decide +kernel
theorem dX0_keepLeaf_117 : decode cX0_keepLeaf 117 = .ok (.iconst 0, 1) := by decide +kernel
theorem dX0_keepLeaf_118 : decode cX0_keepLeaf 118 = .ok (.iconst 0, 1) := by decide +kernel
theorem dX0_keepLeaf_119 : decode cX0_keepLeaf 119 = .ok (.invokevirtual 74, 3) := by decide +kernel
theorem dX0_keepLeaf_122 : decode cX0_keepLeaf 122 = .ok (.aload_n 0, 1) := by decide +kernel
theorem dX0_keepLeaf_123 : decode cX0_keepLeaf 123 = .ok (.getfield 35, 3) := by decide +kernel
theorem dX0_keepLeaf_126 : decode cX0_keepLeaf 126 = .ok (.getfield 78, 3) := by decide +kernel
theorem dX0_keepLeaf_129 : decode cX0_keepLeaf 129 = .ok (.aload_n 0, 1) := by decide +kernel
theorem dX0_keepLeaf_130 : decode cX0_keepLeaf 130 = .ok (.getfield 28, 3) := by decide +kernel
theorem dX0_keepLeaf_133 : decode cX0_keepLeaf 133 = .ok (.invokevirtual 81, 3) := by decide +kernel
theorem dX0_keepLeaf_136 : decode cX0_keepLeaf 136 = .ok (.aload_n 0, 1) := by decide +kernel
theorem dX0_keepLeaf_137 : decode cX0_keepLeaf 137 = .ok (.getfield 35, 3) := by decide +kernel
theorem dX0_keepLeaf_140 : decode cX0_keepLeaf 140 = .ok (.aload_n 0, 1) := by decide +kernel
theorem dX0_keepLeaf_141 : decode cX0_keepLeaf 141 = .ok (.getfield 16, 3) := by decide +kernel
theorem dX0_keepLeaf_144 : decode cX0_keepLeaf 144 = .ok (.iload 4, 2) := by decide +kernel
theorem dX0_keepLeaf_146 : decode cX0_keepLeaf 146 = .ok (.bipush 16, 2) := by decide +kernel
theorem dX0_keepLeaf_148 : decode cX0_keepLeaf 148 = .ok (.imul, 1) := by decide +kernel
theorem dX0_keepLeaf_149 : decode cX0_keepLeaf 149 = .ok (.invokevirtual 85, 3) := by decide +kernel
theorem dX0_keepLeaf_152 : decode cX0_keepLeaf 152 = .ok (.aload_n 0, 1) := by decide +kernel
theorem dX0_keepLeaf_153 : decode cX0_keepLeaf 153 = .ok (.getfield 20, 3) := by decide +kernel
theorem dX0_keepLeaf_156 : decode cX0_keepLeaf 156 = .ok (.iload 4, 2) := by decide +kernel
theorem dX0_keepLeaf_158 : decode cX0_keepLeaf 158 = .ok (.iconst 1, 1) := by decide +kernel
theorem dX0_keepLeaf_159 : decode cX0_keepLeaf 159 = .ok (.bastore, 1) := by decide +kernel
theorem dX0_keepLeaf_160 : decode cX0_keepLeaf 160 = .ok (.return_, 1) := by decide +kernel
set_option maxHeartbeats 1000000 in
set_option maxRecDepth 100000 in
/-- Chains.forgetLeaves -/
theorem c_forget (l : Launch) (g : jG) (ch : Nat) (lvr : Nat) (kna : Nat) (dga : Nat) (enr : Nat) (sp : Nat) (hh : Nat) (kn : Nat → Int32)  : jC l g yX0_forgetLeaves wsX0_forgetLeaves ({ frames := 0, cells := 0, slots := 0, locals := 0 } : Room) [.ref ch] [oB ch 0 [.ref lvr, .ref kna, .ref dga, .ref enr, .ref sp, .ref hh], zA g kna 32 kn] (fun jj : (Nat → Int32) => none) (fun jj : (Nat → Int32) => ∀ i, i < 32 → jj i = 0) (fun jj : (Nat → Int32) => [oB ch 0 [.ref lvr, .ref kna, .ref dga, .ref enr, .ref sp, .ref hh], zA g kna 32 jj]) := by
  refine jC.of (cc := cX0_forgetLeaves) (own := RX0) (maxL := 2) (ret := none) (by decide +kernel) rfl rfl (Nat.le_of_ble_eq_true rfl) (fun u hu => rfl) ?_
  intro p e s m below meth c A Q hX hret
  have in0 : ∀ w ∈ wsX00, w ∈ wsX0_forgetLeaves := (fun w h => List.mem_cons_of_mem _ (List.mem_append_right _ h))
  refine j_iconst hX (0) dX0_forgetLeaves_0 (by decide) ?_
  refine j_st [.int (nI 0)] rfl ?_
  refine j_istore_n hX 1 [(1, .int (nI 0)), (0, .ref ch)] dX0_forgetLeaves_1 rfl (by decide) rfl ?_
  have lp_1 : ∀ (n_2 : Nat) (i : Nat) (K : Nat → Int32), (32 - i < n_2) → (i ≤ 32) → (∀ j, j < i → K j = 0) → J p l e ({ frames := 0, cells := 0, slots := 0, locals := 0 } : Room) s m ([.ref ch] : List Value).toArray below meth c g A 2 Q 0 0 [oB ch 0 [.ref lvr, .ref kna, .ref dga, .ref enr, .ref sp, .ref hh], zA g kna 32 K] [(0, .ref ch), (1, .int (nI i))] 2 [] := by
    intro n_2
    induction n_2 with
    | zero => intro i K hm; exact absurd hm (Nat.not_lt_zero _)
    | succ n_2 ih_3 =>
      intro i K hm hi hK
      refine j_iload_n hX 1 dX0_forgetLeaves_2 rfl ?_
      refine j_bipush hX (32) dX0_forgetLeaves_3 (by decide) ?_
      refine j_icmp_geN hX i 32 21 dX0_forgetLeaves_5 (by decide) (by omega) (by omega) (fun b_5 => ?_) (fun b_5 => ?_)
      · skip
        exact hret K (fun j hj => hK j (by omega)) 21 _ .return_ dX0_forgetLeaves_21 rfl
      · skip
        refine j_aload_n hX 0 dX0_forgetLeaves_8 rfl ?_
        refine j_pc 9 rfl ?_
        refine j_get hX in0 0 0 1 (v := .ref kna) rfl rfl (by decide) (List.mem_of_getElem? (i := 1) rfl) rfl rfl dX0_forgetLeaves_9 ?_
        refine j_iload_n hX 1 dX0_forgetLeaves_12 rfl ?_
        refine j_iconst hX (0) dX0_forgetLeaves_13 (by decide) ?_
        refine j_zastN hX 1 i rfl (by omega) (by omega) [oB ch 0 [.ref lvr, .ref kna, .ref dga, .ref enr, .ref sp, .ref hh], zA g kna 32 (upd K i (vp_nar .boolean 0))] rfl dX0_forgetLeaves_14 ?_
        refine j_iincN hX i (i + 1) [(1, .int (nI (i + 1))), (0, .ref ch)] 1 dX0_forgetLeaves_15 rfl (nI_1 _) (by decide) rfl ?_
        refine j_goto hX 2 dX0_forgetLeaves_18 (by decide) ?_
        refine j_perm [(0, .ref ch), (1, .int (nI (i + 1)))] [1, 0] rfl ?_
        exact ih_3 (i + 1) (upd K i (vp_nar .boolean 0)) (by omega) (by omega) (fun j hj => by unfold upd; split; rfl; exact hK j (by omega))
  refine j_perm [(0, .ref ch), (1, .int (nI 0))] [1, 0] rfl ?_
  exact lp_1 _ 0 kn (Nat.lt_succ_self _) (by omega) (fun j hj => absurd hj (Nat.not_lt_zero j))

set_option maxHeartbeats 1000000 in
set_option maxRecDepth 100000 in
/-- Chains.leafNumber -/
theorem c_leafNumber (l : Launch) (g : jG) (ly : Nat) (tr : Nat) (u : Nat)  : jC l g yX0_leafNumber wsX0_leafNumber ({ frames := 0, cells := 0, slots := 0, locals := 0 } : Room) [.int (nI ly), .int (nI tr), .int (nI u)] [] (fun jj : Unit => some (.int (nI (ly * 16 + tr * 4 + u)))) (fun jj : Unit => True) (fun jj : Unit => []) := by
  refine jC.of (cc := cX0_leafNumber) (own := RX0) (maxL := 3) (ret := (some .int)) (by decide +kernel) rfl rfl (Nat.le_of_ble_eq_true rfl) (fun u hu => ⟨_, rfl, rfl⟩) ?_
  intro p e s m below meth c A Q hX hret
  refine j_iload_n hX 0 dX0_leafNumber_0 rfl ?_
  refine j_bipush hX (16) dX0_leafNumber_1 (by decide) ?_
  refine j_imulN hX ly 16 dX0_leafNumber_3 ?_
  refine j_iload_n hX 1 dX0_leafNumber_4 rfl ?_
  refine j_iconst hX (4) dX0_leafNumber_5 (by decide) ?_
  refine j_imulN hX tr 4 dX0_leafNumber_6 ?_
  refine j_iaddN hX (ly * 16) (tr * 4) dX0_leafNumber_7 ?_
  refine j_pc 8 rfl ?_
  refine j_iload_n hX 2 dX0_leafNumber_8 rfl ?_
  refine j_iaddN hX ((ly * 16) + (tr * 4)) u dX0_leafNumber_9 ?_
  exact hret () trivial 10 _ .ireturn dX0_leafNumber_10 rfl

set_option maxHeartbeats 1000000 in
set_option maxRecDepth 100000 in
/-- Chains.leafStart -/
theorem c_leafStart (l : Launch) (g : jG) (ly : Nat) (tr : Nat) (u : Nat)  : jC l g yX0_leafStart wsX0_leafStart ({ frames := 1, cells := 0, slots := 0, locals := 22 } : Room) [.int (nI ly), .int (nI tr), .int (nI u)] [] (fun jj : Unit => some (.int (nI ((ly * 16 + tr * 4 + u) * 16)))) (fun jj : Unit => True) (fun jj : Unit => []) := by
  refine jC.of (cc := cX0_leafStart) (own := RX0) (maxL := 3) (ret := (some .int)) (by decide +kernel) rfl rfl (Nat.le_of_ble_eq_true rfl) (fun u hu => ⟨_, rfl, rfl⟩) ?_
  intro p e s m below meth c A Q hX hret
  refine j_iload_n hX 0 dX0_leafStart_0 rfl ?_
  refine j_iload_n hX 1 dX0_leafStart_1 rfl ?_
  refine j_iload_n hX 2 dX0_leafStart_2 rfl ?_
  refine j_callS (b := 0) (C := "") hX 3 (c_leafNumber l g ly tr u ) gX0_leafStart_X0_leafNumber (by decide +kernel) rfl ⟨rfl, rfl⟩ ⟨Nat.le_of_ble_eq_true rfl, Nat.le_of_ble_eq_true rfl⟩ [] rfl (by decide) (fun _ => rfl) rfl [] rfl (Nat.le_of_ble_eq_true rfl) ⟨Nat.le_refl _, Nat.le_refl _⟩ dX0_leafStart_3 ?_
  intro _ hu_1
  refine j_w [] rfl ?_
  refine j_st [.int (nI (ly * 16 + tr * 4 + u))] rfl ?_
  refine j_bipush hX (16) dX0_leafStart_6 (by decide) ?_
  refine j_imulN hX (ly * 16 + tr * 4 + u) 16 dX0_leafStart_8 ?_
  exact hret () trivial 9 _ .ireturn dX0_leafStart_9 rfl

set_option maxHeartbeats 1000000 in
set_option maxRecDepth 100000 in
/-- Chains.readDigits -/
theorem c_readDigits (l : Launch) (g : jG) (ch : Nat) (lvr : Nat) (kna : Nat) (dga : Nat) (enr : Nat) (hh : Nat) (sp : Nat) (fm : Nat) (nn : Nat) (ht : Nat) (lys : Nat) (fa : Nat) (mk : Nat) (D0 : Nat → Int32) (rr : Nat) (rra : Nat) (n1 : Nat) (rcap : Nat) (rf : Nat → Int32) (hnn : nn ≤ 16) (hn4 : 1 ≤ nn) (hn1 : nn ≤ n1) (hn1c : n1 ≤ rcap) (hrc : rcap < 2 ^ 31) : jC l g yX0_readDigits wsX0_readDigits ({ frames := 1, cells := 0, slots := 0, locals := 21 } : Room) [.ref ch, .ref rr] [oB ch 0 [.ref lvr, .ref kna, .ref dga, .ref enr, .ref sp, .ref hh], oB sp 8 [.int (nI fm), .int (nI nn), .int (nI ht), .int (nI lys), .int (nI fa), .int (nI mk)], iA g dga 35 D0, oB rr 7 [.ref rra, .int (nI n1)], bA g rra rcap rf] (fun jj : (Nat → Int32) => none) (fun jj : (Nat → Int32) => ∀ i, i < ln nn → jj i = nI (dgt rf nn i)) (fun jj : (Nat → Int32) => [oB ch 0 [.ref lvr, .ref kna, .ref dga, .ref enr, .ref sp, .ref hh], oB sp 8 [.int (nI fm), .int (nI nn), .int (nI ht), .int (nI lys), .int (nI fa), .int (nI mk)], iA g dga 35 jj, oB rr 7 [.ref rra, .int (nI n1)], bA g rra rcap rf]) := by
  refine jC.of (cc := cX0_readDigits) (own := RX0) (maxL := 4) (ret := none) (by decide +kernel) rfl rfl (Nat.le_of_ble_eq_true rfl) (fun u hu => rfl) ?_
  intro p e s m below meth c A Q hX hret
  have in0 : ∀ w ∈ wsX00, w ∈ wsX0_readDigits := (fun w h => List.mem_cons_of_mem _ (List.mem_append_left _ (List.mem_append_left _ (List.mem_append_right _ h))))
  have in8 : ∀ w ∈ wsX80, w ∈ wsX0_readDigits := (fun w h => List.mem_cons_of_mem _ (List.mem_append_left _ (List.mem_append_right _ h)))
  have hln := ln_le nn
  have hcs := cs_le rf (2 * nn)
  refine j_iconst hX (0) dX0_readDigits_0 (by decide) ?_
  refine j_st [.int (nI 0)] rfl ?_
  refine j_istore_n hX 2 [(2, .int (nI 0)), (0, .ref ch), (1, .ref rr)] dX0_readDigits_1 rfl (by decide) rfl ?_
  refine j_iconst hX (0) dX0_readDigits_2 (by decide) ?_
  refine j_st [.int (nI 0)] rfl ?_
  refine j_istore_n hX 3 [(3, .int (nI 0)), (2, .int (nI 0)), (0, .ref ch), (1, .ref rr)] dX0_readDigits_3 rfl (by decide) rfl ?_
  have lp_1 : ∀ (n_2 : Nat) (i : Nat) (ms : Nat) (D : Nat → Int32), (2 * nn - i < n_2) → (i ≤ 2 * nn) → (ms = cs rf i) → (∀ j, j < i → D j = nI (nib (rf (j / 2)) j)) → J p l e ({ frames := 1, cells := 0, slots := 0, locals := 21 } : Room) s m ([.ref ch, .ref rr] : List Value).toArray below meth c g A 4 Q 0 0 [oB ch 0 [.ref lvr, .ref kna, .ref dga, .ref enr, .ref sp, .ref hh], oB sp 8 [.int (nI fm), .int (nI nn), .int (nI ht), .int (nI lys), .int (nI fa), .int (nI mk)], iA g dga 35 D, oB rr 7 [.ref rra, .int (nI n1)], bA g rra rcap rf] [(0, .ref ch), (1, .ref rr), (2, .int (nI ms)), (3, .int (nI i))] 4 [] := by
    intro n_2
    induction n_2 with
    | zero => intro i ms D hm; exact absurd hm (Nat.not_lt_zero _)
    | succ n_2 ih_3 =>
      intro i ms D hm hi hms hD
      refine j_iload_n hX 3 dX0_readDigits_4 rfl ?_
      refine j_iconst hX (2) dX0_readDigits_5 (by decide) ?_
      refine j_aload_n hX 0 dX0_readDigits_6 rfl ?_
      refine j_pc 7 rfl ?_
      refine j_get hX in0 0 0 4 (v := .ref sp) rfl rfl (by decide) (List.mem_of_getElem? (i := 1) rfl) rfl rfl dX0_readDigits_7 ?_
      refine j_get hX in8 8 1 1 (v := .int (nI nn)) rfl rfl (by decide) (List.mem_of_getElem? (i := 2) rfl) rfl rfl dX0_readDigits_10 ?_
      refine j_imulN hX 2 nn dX0_readDigits_13 ?_
      refine j_icmp_geN hX i (2 * nn) 63 dX0_readDigits_14 (by decide) (by omega) (by omega) (fun b_14 => ?_) (fun b_14 => ?_)
      · skip
        refine j_aload_n hX 0 dX0_readDigits_63 rfl ?_
        refine j_get hX in0 0 0 4 (v := .ref sp) rfl rfl (by decide) (List.mem_of_getElem? (i := 1) rfl) rfl rfl dX0_readDigits_64 ?_
        refine j_callV hX 0 (c_len l g sp fm nn ht lys fa mk (by omega)) gX0_readDigits_X8_len (by decide +kernel) rfl ⟨rfl, rfl⟩ ⟨Nat.le_of_ble_eq_true rfl, Nat.le_of_ble_eq_true rfl⟩ 8 1 rfl rfl [1] rfl (by decide) (fun _ => rfl) rfl [] rfl (Nat.le_of_ble_eq_true rfl) ⟨Nat.le_refl _, Nat.le_refl _⟩ dX0_readDigits_67 ?_
        intro _ hu_4
        refine j_w [oB ch 0 [.ref lvr, .ref kna, .ref dga, .ref enr, .ref sp, .ref hh], oB sp 8 [.int (nI fm), .int (nI nn), .int (nI ht), .int (nI lys), .int (nI fa), .int (nI mk)], iA g dga 35 D, oB rr 7 [.ref rra, .int (nI n1)], bA g rra rcap rf] rfl ?_
        refine j_st [.int (nI (ln nn))] rfl ?_
        refine j_iconst hX (1) dX0_readDigits_70 (by decide) ?_
        refine j_pc 71 rfl ?_
        refine j_isubN hX (ln nn) 1 (by omega) dX0_readDigits_71 ?_
        refine j_istore_n hX 3 [(3, .int (nI ((ln nn) - 1))), (0, .ref ch), (1, .ref rr), (2, .int (nI ms))] dX0_readDigits_72 rfl (by decide) rfl ?_
        have lp_5 : ∀ (n_6 : Nat) (i : Nat) (q : Nat) (ms : Nat) (D : Nat → Int32), (i < n_6) → (i + q + 1 = ln nn) → (2 * nn ≤ i + 1) → (ms = cs rf (2 * nn) / 16 ^ q) → (∀ j, j < 2 * nn → D j = nI (dgt rf nn j)) → (∀ j, i < j → j < ln nn → D j = nI (dgt rf nn j)) → J p l e ({ frames := 1, cells := 0, slots := 0, locals := 21 } : Room) s m ([.ref ch, .ref rr] : List Value).toArray below meth c g A 4 Q 0 0 [oB ch 0 [.ref lvr, .ref kna, .ref dga, .ref enr, .ref sp, .ref hh], oB sp 8 [.int (nI fm), .int (nI nn), .int (nI ht), .int (nI lys), .int (nI fa), .int (nI mk)], iA g dga 35 D, oB rr 7 [.ref rra, .int (nI n1)], bA g rra rcap rf] [(0, .ref ch), (1, .ref rr), (2, .int (nI ms)), (3, .int (nI i))] 73 [] := by
          intro n_6
          induction n_6 with
          | zero => intro i q ms D hm; exact absurd hm (Nat.not_lt_zero _)
          | succ n_6 ih_7 =>
            intro i q ms D hm hiq hlo hms hD hD2
            have hmsl : ms ≤ 480 := by rw [hms]; exact Nat.le_trans (Nat.div_le_self _ _) (by omega)
            refine j_iload_n hX 3 dX0_readDigits_73 rfl ?_
            refine j_iconst hX (2) dX0_readDigits_74 (by decide) ?_
            refine j_aload_n hX 0 dX0_readDigits_75 rfl ?_
            refine j_get hX in0 0 0 4 (v := .ref sp) rfl rfl (by decide) (List.mem_of_getElem? (i := 1) rfl) rfl rfl dX0_readDigits_76 ?_
            refine j_get hX in8 8 1 1 (v := .int (nI nn)) rfl rfl (by decide) (List.mem_of_getElem? (i := 2) rfl) rfl rfl dX0_readDigits_79 ?_
            refine j_imulN hX 2 nn dX0_readDigits_82 ?_
            refine j_pc 83 rfl ?_
            refine j_icmp_ltN hX i (2 * nn) 106 dX0_readDigits_83 (by decide) (by omega) (by omega) (fun b_83 => ?_) (fun b_83 => ?_)
            · skip
              exact hret D (fun j hj => by by_cases e2 : j < 2 * nn; exact hD j e2; exact hD2 j (by omega) hj) 106 _ .return_ dX0_readDigits_106 rfl
            · skip
              refine j_aload_n hX 0 dX0_readDigits_86 rfl ?_
              refine j_get hX in0 0 0 2 (v := .ref dga) rfl rfl (by decide) (List.mem_of_getElem? (i := 3) rfl) rfl rfl dX0_readDigits_87 ?_
              refine j_iload_n hX 3 dX0_readDigits_90 rfl ?_
              refine j_iload_n hX 2 dX0_readDigits_91 rfl ?_
              refine j_bipush hX (15) dX0_readDigits_92 (by decide) ?_
              refine j_iand hX dX0_readDigits_94 ?_
              refine j_topeq _ (nI (ms % 16)) (by rw [pk_andN (by omega) 4 rfl]) ?_
              refine j_pc 95 rfl ?_
              refine j_iastN hX 2 i rfl (by omega) (by omega) [oB ch 0 [.ref lvr, .ref kna, .ref dga, .ref enr, .ref sp, .ref hh], oB sp 8 [.int (nI fm), .int (nI nn), .int (nI ht), .int (nI lys), .int (nI fa), .int (nI mk)], iA g dga 35 (upd D i (nI (ms % 16))), oB rr 7 [.ref rra, .int (nI n1)], bA g rra rcap rf] rfl dX0_readDigits_95 ?_
              refine j_iload_n hX 2 dX0_readDigits_96 rfl ?_
              refine j_iconst hX (4) dX0_readDigits_97 (by decide) ?_
              refine j_ishrN hX ms 4 (by omega) (by omega) dX0_readDigits_98 ?_
              refine j_istore_n hX 2 [(2, .int (nI (ms / 2 ^ 4))), (0, .ref ch), (1, .ref rr), (3, .int (nI i))] dX0_readDigits_99 rfl (by decide) rfl ?_
              refine j_iincN hX i (i - 1) [(3, .int (nI (i - 1))), (2, .int (nI (ms / 2 ^ 4))), (0, .ref ch), (1, .ref rr)] 3 dX0_readDigits_100 rfl (nI_dec 1 (by omega)) (by decide) rfl ?_
              refine j_goto hX 73 dX0_readDigits_103 (by decide) ?_
              refine j_perm [(0, .ref ch), (1, .ref rr), (2, .int (nI (ms / 2 ^ 4))), (3, .int (nI (i - 1)))] [2, 3, 1, 0] rfl ?_
              exact ih_7 (i - 1) (q + 1) (ms / 2 ^ 4) (upd D i (nI (ms % 16))) (by omega) (by omega) (by omega) (by rw [hms, Nat.div_div_eq_div_mul]; rfl) (fun j hj => by rw [pk_un (by omega)]; exact hD j hj) (fun j hj1 hj2 => by by_cases e2 : j = i; (rw [e2, pk_us, hms, dgt_hi (by omega) hiq]); (rw [pk_un e2]; exact hD2 j (by omega) hj2))
        refine j_perm [(0, .ref ch), (1, .ref rr), (2, .int (nI ms)), (3, .int (nI ((ln nn) - 1)))] [1, 2, 3, 0] rfl ?_
        exact lp_5 _ ((ln nn) - 1) 0 ms D (Nat.lt_succ_self _) (by omega) (by omega) (by rw [hms, show i = 2 * nn by omega, Nat.pow_zero, Nat.div_one]) (fun j hj => by rw [hD j (by omega), dgt, if_pos hj]) (fun j hj1 hj2 => by omega)
      · skip
        refine j_aload_n hX 0 dX0_readDigits_17 rfl ?_
        refine j_pc 18 rfl ?_
        refine j_get hX in0 0 0 2 (v := .ref dga) rfl rfl (by decide) (List.mem_of_getElem? (i := 3) rfl) rfl rfl dX0_readDigits_18 ?_
        refine j_iload_n hX 3 dX0_readDigits_21 rfl ?_
        refine j_aload_n hX 1 dX0_readDigits_22 rfl ?_
        refine j_iload_n hX 3 dX0_readDigits_23 rfl ?_
        refine j_iconst hX (2) dX0_readDigits_24 (by decide) ?_
        refine j_idivN hX i 2 (by omega) (by omega) (by omega) dX0_readDigits_25 ?_
        refine j_callV hX 1 (c_at l g rr rra n1 rcap rf (nI (i / 2)) hn1c hrc) gX0_readDigits_X7_at (by decide +kernel) rfl ⟨rfl, rfl⟩ ⟨Nat.le_of_ble_eq_true rfl, Nat.le_of_ble_eq_true rfl⟩ 7 3 rfl rfl [3, 4] rfl (by decide) (fun _ => rfl) rfl [.int (nI i), .ref dga] rfl (Nat.le_of_ble_eq_true rfl) ⟨Nat.le_refl _, Nat.le_refl _⟩ dX0_readDigits_26 ?_
        intro _ hu_8
        refine j_w [oB ch 0 [.ref lvr, .ref kna, .ref dga, .ref enr, .ref sp, .ref hh], oB sp 8 [.int (nI fm), .int (nI nn), .int (nI ht), .int (nI lys), .int (nI fa), .int (nI mk)], iA g dga 35 D, oB rr 7 [.ref rra, .int (nI n1)], bA g rra rcap rf] rfl ?_
        refine j_st [.int (rAt rf n1 (nI (i / 2))), .int (nI i), .ref dga] rfl ?_
        refine j_topeq _ (rf (i / 2) &&& 255) (rAt_in (by omega) (by omega)) ?_
        have jn_9 : ∀ (q4 : Nat), (q4 = if i % 2 = 0 then 4 else 0) → J p l e ({ frames := 1, cells := 0, slots := 0, locals := 21 } : Room) s m ([.ref ch, .ref rr] : List Value).toArray below meth c g A 4 Q 0 0 [oB ch 0 [.ref lvr, .ref kna, .ref dga, .ref enr, .ref sp, .ref hh], oB sp 8 [.int (nI fm), .int (nI nn), .int (nI ht), .int (nI lys), .int (nI fa), .int (nI mk)], iA g dga 35 D, oB rr 7 [.ref rra, .int (nI n1)], bA g rra rcap rf] [(3, .int (nI i)), (2, .int (nI ms)), (0, .ref ch), (1, .ref rr)] 40 [.int (nI q4), .int (rf (i / 2) &&& 255), .int (nI i), .ref dga] := by
          intro q4 hq4
          refine j_ishr hX dX0_readDigits_40 ?_
          refine j_pc 41 rfl ?_
          refine j_bipush hX (15) dX0_readDigits_41 (by decide) ?_
          refine j_iand hX dX0_readDigits_43 ?_
          refine j_topeq _ (nI (nib (rf (i / 2)) i)) (nib_c _ hq4) ?_
          refine j_iastN hX 2 i rfl (by omega) (by omega) [oB ch 0 [.ref lvr, .ref kna, .ref dga, .ref enr, .ref sp, .ref hh], oB sp 8 [.int (nI fm), .int (nI nn), .int (nI ht), .int (nI lys), .int (nI fa), .int (nI mk)], iA g dga 35 (upd D i (nI (nib (rf (i / 2)) i))), oB rr 7 [.ref rra, .int (nI n1)], bA g rra rcap rf] rfl dX0_readDigits_44 ?_
          refine j_iload_n hX 1 dX0_readDigits_45 rfl ?_
          refine j_bipush hX (15) dX0_readDigits_46 (by decide) ?_
          refine j_aload_n hX 2 dX0_readDigits_48 rfl ?_
          refine j_get hX in0 0 0 2 (v := .ref dga) rfl rfl (by decide) (List.mem_of_getElem? (i := 3) rfl) rfl rfl dX0_readDigits_49 ?_
          refine j_iload_n hX 0 dX0_readDigits_52 rfl ?_
          refine j_pc 53 rfl ?_
          refine j_ialdN hX 2 i rfl (by omega) (by omega) dX0_readDigits_53 ?_
          refine j_topeq _ (nI (nib (rf (i / 2)) i)) pk_us ?_
          refine j_isubN hX 15 (nib (rf (i / 2)) i) (by have := nib_lt (rf (i / 2)) i; omega) dX0_readDigits_54 ?_
          refine j_iaddN hX ms (15 - (nib (rf (i / 2)) i)) dX0_readDigits_55 ?_
          refine j_istore_n hX 2 [(2, .int (nI (ms + (15 - (nib (rf (i / 2)) i))))), (3, .int (nI i)), (0, .ref ch), (1, .ref rr)] dX0_readDigits_56 rfl (by decide) rfl ?_
          refine j_iincN hX i (i + 1) [(3, .int (nI (i + 1))), (2, .int (nI (ms + (15 - (nib (rf (i / 2)) i))))), (0, .ref ch), (1, .ref rr)] 1 dX0_readDigits_57 rfl (nI_1 _) (by decide) rfl ?_
          refine j_goto hX 4 dX0_readDigits_60 (by decide) ?_
          refine j_perm [(0, .ref ch), (1, .ref rr), (2, .int (nI (ms + (15 - (nib (rf (i / 2)) i))))), (3, .int (nI (i + 1)))] [2, 3, 1, 0] rfl ?_
          exact ih_3 (i + 1) (ms + (15 - (nib (rf (i / 2)) i))) (upd D i (nI (nib (rf (i / 2)) i))) (by omega) (by omega) (by rw [hms]; rfl) (fun j hj => by unfold upd; split; (rename_i e2; rw [e2]); exact hD j (by omega))
        refine j_iload_n hX 3 dX0_readDigits_29 rfl ?_
        refine j_iconst hX (2) dX0_readDigits_30 (by decide) ?_
        refine j_pc 31 rfl ?_
        refine j_iremN hX i 2 (by omega) (by omega) (by omega) dX0_readDigits_31 ?_
        refine j_if_neN hX (i % 2) 39 dX0_readDigits_32 (by decide) (by omega) (fun b_32 => ?_) (fun b_32 => ?_)
        · skip
          refine j_iconst hX (0) dX0_readDigits_39 (by decide) ?_
          refine j_perm [(3, .int (nI i)), (2, .int (nI ms)), (0, .ref ch), (1, .ref rr)] [3, 2, 0, 1] rfl ?_
          exact jn_9 0 (by first | rw [if_pos (by omega)] | rw [if_neg (by omega)])
        · skip
          refine j_iconst hX (4) dX0_readDigits_35 (by decide) ?_
          refine j_goto hX 40 dX0_readDigits_36 (by decide) ?_
          refine j_perm [(3, .int (nI i)), (2, .int (nI ms)), (0, .ref ch), (1, .ref rr)] [3, 2, 0, 1] rfl ?_
          exact jn_9 4 (by first | rw [if_pos (by omega)] | rw [if_neg (by omega)])
  refine j_perm [(0, .ref ch), (1, .ref rr), (2, .int (nI 0)), (3, .int (nI 0))] [2, 3, 1, 0] rfl ?_
  exact lp_1 _ 0 0 D0 (Nat.lt_succ_self _) (by omega) rfl (fun j hj => absurd hj (Nat.not_lt_zero j))

set_option maxHeartbeats 1000000 in
set_option maxRecDepth 100000 in
/-- Chains.keepLeaf -/
theorem c_keepLeaf (l : Launch) (g : jG) (ch : Nat) (lvr : Nat) (kna : Nat) (dga : Nat) (enr : Nat) (hh : Nat) (inr : Nat) (outr : Nat) (zo : Nat) (on : Nat) (sp : Nat) (fm : Nat) (nn : Nat) (ht : Nat) (lys : Nat) (fa : Nat) (mk : Nat) (sdr : Nat) (oly : Int32) (otr : Int32) (sda : Nat) (sd : Nat → Int32) (ina : Nat) (ni : Nat) (fi : Nat → Int32) (outa : Nat) (no : Nat) (fo : Nat → Int32) (sa : Nat) (wa : Nat) (S0 : Nat → Int32) (w0 : Nat → Int32) (aa : Nat) (ba : Nat) (A0 : Nat → Int64) (B0 : Nat → Int64) (lva : Nat) (lvs : Nat → Int32) (kn : Nat → Int32) (ena : Nat) (ne : Nat) (ef : Nat → Int32) (ly : Nat) (tr : Nat) (u : Nat) (hfm : fm < 2) (hnn : nn ≤ 16) (hB : isB sd) (hno : no ≤ 32) (hBo : isB fo) (hni0 : ni ≤ 768) (hly : ly < 2) (htr : tr < 4) (hu4 : u < 4) (hne : ne ≤ 560) (hEB : isB ef) (hLB : isB lvs) (hCa : cache fm nn sd lvs kn) : jC l g yX0_keepLeaf wsX0_keepLeaf ({ frames := 4, cells := 0, slots := 0, locals := 117 } : Room) [.ref ch, .int (nI ly), .int (nI tr), .int (nI u)] [oB ch 0 [.ref lvr, .ref kna, .ref dga, .ref enr, .ref sp, .ref hh], oB hh 5 [.ref inr, .ref outr, .ref zo, .ref on, .ref sp, .ref sdr, .int oly, .int otr], oB sp 8 [.int (nI fm), .int (nI nn), .int (nI ht), .int (nI lys), .int (nI fa), .int (nI mk)], oB sdr 7 [.ref sda, .int (nI 48)], bA g sda 48 sd, oB inr 7 [.ref ina, .int (nI ni)], bA g ina 768 fi, oB outr 7 [.ref outa, .int (nI no)], bA g outa 32 fo, oB zo 4 [.ref sa, .ref wa], iA g sa 8 S0, iA g wa 64 w0, oB on 3 [.ref aa, .ref ba], lA g aa 25 A0, lA g ba 25 B0, oB lvr 7 [.ref lva, .int (nI 512)], bA g lva 512 lvs, zA g kna 32 kn, oB enr 7 [.ref ena, .int (nI ne)], bA g ena 560 ef] (fun jj : Nat × (Nat → Int32) × (Nat → Int32) × (Nat → Int64) × (Nat → Int64) × Nat × (Nat → Int32) × (Nat → Int32) × (Nat → Int32) × (Nat → Int32) × Nat × (Nat → Int32) => none) (fun jj : Nat × (Nat → Int32) × (Nat → Int32) × (Nat → Int64) × (Nat → Int64) × Nat × (Nat → Int32) × (Nat → Int32) × (Nat → Int32) × (Nat → Int32) × Nat × (Nat → Int32) => (jj.2.2.2.2.2.1 ≤ 768 ∧ jj.1 ≤ 32 ∧ jj.2.2.2.2.2.2.2.2.2.2.1 ≤ 560) ∧ isB jj.2.2.2.2.2.2.2.1 ∧ isB jj.2.2.2.2.2.2.2.2.1 ∧ isB jj.2.2.2.2.2.2.2.2.2.2.2 ∧ cache fm nn sd jj.2.2.2.2.2.2.2.2.1 jj.2.2.2.2.2.2.2.2.2.1 ∧ slice jj.2.2.2.2.2.2.2.2.1 ((ly * 16 + tr * 4 + u) * 16) nn = LF fm nn sd ly tr u) (fun jj : Nat × (Nat → Int32) × (Nat → Int32) × (Nat → Int64) × (Nat → Int64) × Nat × (Nat → Int32) × (Nat → Int32) × (Nat → Int32) × (Nat → Int32) × Nat × (Nat → Int32) => [oB ch 0 [.ref lvr, .ref kna, .ref dga, .ref enr, .ref sp, .ref hh], oB hh 5 [.ref inr, .ref outr, .ref zo, .ref on, .ref sp, .ref sdr, .int (nI ly), .int (nI tr)], oB sp 8 [.int (nI fm), .int (nI nn), .int (nI ht), .int (nI lys), .int (nI fa), .int (nI mk)], oB sdr 7 [.ref sda, .int (nI 48)], bA g sda 48 sd, oB inr 7 [.ref ina, .int (nI jj.2.2.2.2.2.1)], bA g ina 768 jj.2.2.2.2.2.2.1, oB outr 7 [.ref outa, .int (nI jj.1)], bA g outa 32 jj.2.2.2.2.2.2.2.1, oB zo 4 [.ref sa, .ref wa], iA g sa 8 jj.2.1, iA g wa 64 jj.2.2.1, oB on 3 [.ref aa, .ref ba], lA g aa 25 jj.2.2.2.1, lA g ba 25 jj.2.2.2.2.1, oB lvr 7 [.ref lva, .int (nI 512)], bA g lva 512 jj.2.2.2.2.2.2.2.2.1, zA g kna 32 jj.2.2.2.2.2.2.2.2.2.1, oB enr 7 [.ref ena, .int (nI jj.2.2.2.2.2.2.2.2.2.2.1)], bA g ena 560 jj.2.2.2.2.2.2.2.2.2.2.2]) := by
  refine jC.of (cc := cX0_keepLeaf) (own := RX0) (maxL := 6) (ret := none) (by decide +kernel) rfl rfl (Nat.le_of_ble_eq_true rfl) (fun u hu => rfl) ?_
  intro p e s m below meth c A Q hX hret
  have in0 : ∀ w ∈ wsX00, w ∈ wsX0_keepLeaf := (fun w h => List.mem_cons_of_mem _ (List.mem_append_left _ (List.mem_append_left _ (List.mem_append_left _ (List.mem_append_left _ (List.mem_append_left _ (List.mem_append_right _ h)))))))
  have in5 : ∀ w ∈ wsX50, w ∈ wsX0_keepLeaf := (fun w h => List.mem_cons_of_mem _ (List.mem_append_left _ (List.mem_append_left _ (List.mem_append_left _ (List.mem_append_right _ h)))))
  have in8 : ∀ w ∈ wsX80, w ∈ wsX0_keepLeaf := (fun w h => List.mem_cons_of_mem _ (List.mem_append_left _ (List.mem_append_left _ (List.mem_append_left _ (List.mem_append_left _ (List.mem_append_right _ h))))))
  have hln := ln_le nn
  have hh2 := hl_le (fm := fm) hnn
  have hlo := hl_or fm nn
  have hdl := hd_length (fm := fm) (n := nn) (by omega) sd ly tr 1 u 0 0
  have hE35 : ln nn * nn ≤ 560 := Nat.le_trans (Nat.mul_le_mul (show ln nn ≤ 35 by omega) hnn) (by decide)
  refine j_aload_n hX 0 dX0_keepLeaf_0 rfl ?_
  refine j_get hX in0 0 0 5 (v := .ref hh) rfl rfl (by decide) (List.mem_of_getElem? (i := 1) rfl) rfl rfl dX0_keepLeaf_1 ?_
  refine j_iload_n hX 1 dX0_keepLeaf_4 rfl ?_
  refine j_iload_n hX 2 dX0_keepLeaf_5 rfl ?_
  refine j_callV hX 2 (c_moveTo l g hh inr outr zo on sp sdr oly otr ly tr ) gX0_keepLeaf_X5_moveTo (by decide +kernel) rfl ⟨rfl, rfl⟩ ⟨Nat.le_of_ble_eq_true rfl, Nat.le_of_ble_eq_true rfl⟩ 5 1 rfl rfl [1] rfl (by decide) (fun _ => rfl) rfl [] rfl (Nat.le_of_ble_eq_true rfl) ⟨Nat.le_refl _, Nat.le_refl _⟩ dX0_keepLeaf_6 ?_
  intro _ hu_1
  refine j_w [oB ch 0 [.ref lvr, .ref kna, .ref dga, .ref enr, .ref sp, .ref hh], oB hh 5 [.ref inr, .ref outr, .ref zo, .ref on, .ref sp, .ref sdr, .int (nI ly), .int (nI tr)], oB sp 8 [.int (nI fm), .int (nI nn), .int (nI ht), .int (nI lys), .int (nI fa), .int (nI mk)], oB sdr 7 [.ref sda, .int (nI 48)], bA g sda 48 sd, oB inr 7 [.ref ina, .int (nI ni)], bA g ina 768 fi, oB outr 7 [.ref outa, .int (nI no)], bA g outa 32 fo, oB zo 4 [.ref sa, .ref wa], iA g sa 8 S0, iA g wa 64 w0, oB on 3 [.ref aa, .ref ba], lA g aa 25 A0, lA g ba 25 B0, oB lvr 7 [.ref lva, .int (nI 512)], bA g lva 512 lvs, zA g kna 32 kn, oB enr 7 [.ref ena, .int (nI ne)], bA g ena 560 ef] rfl ?_
  refine j_st [] rfl ?_
  refine j_iload_n hX 1 dX0_keepLeaf_9 rfl ?_
  refine j_iload_n hX 2 dX0_keepLeaf_10 rfl ?_
  refine j_pc 11 rfl ?_
  refine j_iload_n hX 3 dX0_keepLeaf_11 rfl ?_
  refine j_callS (b := 0) (C := "") hX 3 (c_leafNumber l g ly tr u ) gX0_keepLeaf_X0_leafNumber (by decide +kernel) rfl ⟨rfl, rfl⟩ ⟨Nat.le_of_ble_eq_true rfl, Nat.le_of_ble_eq_true rfl⟩ [] rfl (by decide) (fun _ => rfl) rfl [] rfl (Nat.le_of_ble_eq_true rfl) ⟨Nat.le_refl _, Nat.le_refl _⟩ dX0_keepLeaf_12 ?_
  intro _ hu_2
  refine j_w [oB ch 0 [.ref lvr, .ref kna, .ref dga, .ref enr, .ref sp, .ref hh], oB hh 5 [.ref inr, .ref outr, .ref zo, .ref on, .ref sp, .ref sdr, .int (nI ly), .int (nI tr)], oB sp 8 [.int (nI fm), .int (nI nn), .int (nI ht), .int (nI lys), .int (nI fa), .int (nI mk)], oB sdr 7 [.ref sda, .int (nI 48)], bA g sda 48 sd, oB inr 7 [.ref ina, .int (nI ni)], bA g ina 768 fi, oB outr 7 [.ref outa, .int (nI no)], bA g outa 32 fo, oB zo 4 [.ref sa, .ref wa], iA g sa 8 S0, iA g wa 64 w0, oB on 3 [.ref aa, .ref ba], lA g aa 25 A0, lA g ba 25 B0, oB lvr 7 [.ref lva, .int (nI 512)], bA g lva 512 lvs, zA g kna 32 kn, oB enr 7 [.ref ena, .int (nI ne)], bA g ena 560 ef] rfl ?_
  refine j_st [.int (nI (ly * 16 + tr * 4 + u))] rfl ?_
  refine j_istore hX [(4, .int (nI (ly * 16 + tr * 4 + u))), (0, .ref ch), (1, .int (nI ly)), (2, .int (nI tr)), (3, .int (nI u))] dX0_keepLeaf_15 (by decide) rfl ?_
  refine j_iload hX 0 dX0_keepLeaf_17 rfl ?_
  refine j_if_ltN hX (ly * 16 + tr * 4 + u) 39 dX0_keepLeaf_19 (by decide) (by omega) (fun b_19 => absurd b_19 not_false) (fun b_19 => ?_)
  refine j_iload hX 0 dX0_keepLeaf_22 rfl ?_
  refine j_bipush hX (32) dX0_keepLeaf_24 (by decide) ?_
  refine j_icmp_geN hX (ly * 16 + tr * 4 + u) 32 39 dX0_keepLeaf_26 (by decide) (by omega) (by omega) (fun b_26 => absurd b_26 (by omega)) (fun b_26 => ?_)
  refine j_pc 29 rfl ?_
  refine j_aload_n hX 1 dX0_keepLeaf_29 rfl ?_
  refine j_get hX in0 0 0 1 (v := .ref kna) rfl rfl (by decide) (List.mem_of_getElem? (i := 2) rfl) rfl rfl dX0_keepLeaf_30 ?_
  refine j_iload hX 0 dX0_keepLeaf_33 rfl ?_
  refine j_zaldN hX 17 (ly * 16 + tr * 4 + u) rfl (by omega) (by omega) dX0_keepLeaf_35 ?_
  refine j_if_eq hX 40 dX0_keepLeaf_36 (by decide) (fun b_36 => ?_) (fun b_36 => ?_)
  · skip
    refine j_aload_n hX 1 dX0_keepLeaf_40 rfl ?_
    refine j_get hX in0 0 0 3 (v := .ref enr) rfl rfl (by decide) (List.mem_of_getElem? (i := 3) rfl) rfl rfl dX0_keepLeaf_41 ?_
    refine j_callV hX 0 (c_clear l g enr ena (nI ne) ) gX0_keepLeaf_X7_clear (by decide +kernel) rfl ⟨rfl, rfl⟩ ⟨Nat.le_of_ble_eq_true rfl, Nat.le_of_ble_eq_true rfl⟩ 7 18 rfl rfl [18] rfl (by decide) (fun _ => rfl) rfl [] rfl (Nat.le_of_ble_eq_true rfl) ⟨Nat.le_refl _, Nat.le_refl _⟩ dX0_keepLeaf_44 ?_
    intro _ hu_3
    refine j_w [oB ch 0 [.ref lvr, .ref kna, .ref dga, .ref enr, .ref sp, .ref hh], oB hh 5 [.ref inr, .ref outr, .ref zo, .ref on, .ref sp, .ref sdr, .int (nI ly), .int (nI tr)], oB sp 8 [.int (nI fm), .int (nI nn), .int (nI ht), .int (nI lys), .int (nI fa), .int (nI mk)], oB sdr 7 [.ref sda, .int (nI 48)], bA g sda 48 sd, oB inr 7 [.ref ina, .int (nI ni)], bA g ina 768 fi, oB outr 7 [.ref outa, .int (nI no)], bA g outa 32 fo, oB zo 4 [.ref sa, .ref wa], iA g sa 8 S0, iA g wa 64 w0, oB on 3 [.ref aa, .ref ba], lA g aa 25 A0, lA g ba 25 B0, oB lvr 7 [.ref lva, .int (nI 512)], bA g lva 512 lvs, zA g kna 32 kn, oB enr 7 [.ref ena, .int (nI 0)], bA g ena 560 ef] rfl ?_
    refine j_st [] rfl ?_
    refine j_pc 47 rfl ?_
    refine j_iconst hX (0) dX0_keepLeaf_47 (by decide) ?_
    refine j_st [.int (nI 0)] rfl ?_
    refine j_istore hX [(5, .int (nI 0)), (4, .int (nI (ly * 16 + tr * 4 + u))), (0, .ref ch), (1, .int (nI ly)), (2, .int (nI tr)), (3, .int (nI u))] dX0_keepLeaf_48 (by decide) rfl ?_
    have lp_4 : ∀ (n_5 : Nat) (k : Nat) (no1 : Nat) (S1 : Nat → Int32) (w1 : Nat → Int32) (A1 : Nat → Int64) (B1 : Nat → Int64) (nl : Nat) (G : Nat → Int32) (FO : Nat → Int32) (ne1 : Nat) (E1 : Nat → Int32), (ln nn - k < n_5) → (k ≤ ln nn) → (nl ≤ 768 ∧ no1 ≤ 32) → (isB FO) → (isB E1) → (ne1 = k * nn) → (E1 = putL ef 0 (eL fm nn sd ly tr u k)) → J p l e ({ frames := 4, cells := 0, slots := 0, locals := 117 } : Room) s m ([.ref ch, .int (nI ly), .int (nI tr), .int (nI u)] : List Value).toArray below meth c g A 6 Q 0 0 [oB ch 0 [.ref lvr, .ref kna, .ref dga, .ref enr, .ref sp, .ref hh], oB hh 5 [.ref inr, .ref outr, .ref zo, .ref on, .ref sp, .ref sdr, .int (nI ly), .int (nI tr)], oB sp 8 [.int (nI fm), .int (nI nn), .int (nI ht), .int (nI lys), .int (nI fa), .int (nI mk)], oB sdr 7 [.ref sda, .int (nI 48)], bA g sda 48 sd, oB inr 7 [.ref ina, .int (nI nl)], bA g ina 768 G, oB outr 7 [.ref outa, .int (nI no1)], bA g outa 32 FO, oB zo 4 [.ref sa, .ref wa], iA g sa 8 S1, iA g wa 64 w1, oB on 3 [.ref aa, .ref ba], lA g aa 25 A1, lA g ba 25 B1, oB lvr 7 [.ref lva, .int (nI 512)], bA g lva 512 lvs, zA g kna 32 kn, oB enr 7 [.ref ena, .int (nI ne1)], bA g ena 560 E1] [(0, .ref ch), (1, .int (nI ly)), (2, .int (nI tr)), (3, .int (nI u)), (4, .int (nI (ly * 16 + tr * 4 + u))), (5, .int (nI k))] 50 [] := by
      intro n_5
      induction n_5 with
      | zero => intro k no1 S1 w1 A1 B1 nl G FO ne1 E1 hm; exact absurd hm (Nat.not_lt_zero _)
      | succ n_5 ih_6 =>
        intro k no1 S1 w1 A1 B1 nl G FO ne1 E1 hm hk hnl hFO hB2 hne1 hO
        refine j_iload hX 5 dX0_keepLeaf_50 rfl ?_
        refine j_aload_n hX 0 dX0_keepLeaf_52 rfl ?_
        refine j_get hX in0 0 0 4 (v := .ref sp) rfl rfl (by decide) (List.mem_of_getElem? (i := 4) rfl) rfl rfl dX0_keepLeaf_53 ?_
        refine j_callV hX 0 (c_len l g sp fm nn ht lys fa mk (by omega)) gX0_keepLeaf_X8_len (by decide +kernel) rfl ⟨rfl, rfl⟩ ⟨Nat.le_of_ble_eq_true rfl, Nat.le_of_ble_eq_true rfl⟩ 8 2 rfl rfl [2] rfl (by decide) (fun _ => rfl) rfl [.int (nI k)] rfl (Nat.le_of_ble_eq_true rfl) ⟨Nat.le_refl _, Nat.le_refl _⟩ dX0_keepLeaf_56 ?_
        intro _ hu_7
        refine j_w [oB ch 0 [.ref lvr, .ref kna, .ref dga, .ref enr, .ref sp, .ref hh], oB hh 5 [.ref inr, .ref outr, .ref zo, .ref on, .ref sp, .ref sdr, .int (nI ly), .int (nI tr)], oB sp 8 [.int (nI fm), .int (nI nn), .int (nI ht), .int (nI lys), .int (nI fa), .int (nI mk)], oB sdr 7 [.ref sda, .int (nI 48)], bA g sda 48 sd, oB inr 7 [.ref ina, .int (nI nl)], bA g ina 768 G, oB outr 7 [.ref outa, .int (nI no1)], bA g outa 32 FO, oB zo 4 [.ref sa, .ref wa], iA g sa 8 S1, iA g wa 64 w1, oB on 3 [.ref aa, .ref ba], lA g aa 25 A1, lA g ba 25 B1, oB lvr 7 [.ref lva, .int (nI 512)], bA g lva 512 lvs, zA g kna 32 kn, oB enr 7 [.ref ena, .int (nI ne1)], bA g ena 560 E1] rfl ?_
        refine j_st [.int (nI (ln nn)), .int (nI k)] rfl ?_
        refine j_icmp_geN hX k (ln nn) 111 dX0_keepLeaf_59 (by decide) (by omega) (by omega) (fun b_59 => ?_) (fun b_59 => ?_)
        · skip
          have hkl : k = ln nn := by omega
          have hnek : ne1 = k * nn := hne1
          have hne560 : ne1 ≤ 560 := by rw [hne1, hkl]; exact hE35
          refine j_aload_n hX 0 dX0_keepLeaf_111 rfl ?_
          refine j_pc 112 rfl ?_
          refine j_get hX in0 0 0 5 (v := .ref hh) rfl rfl (by decide) (List.mem_of_getElem? (i := 1) rfl) rfl rfl dX0_keepLeaf_112 ?_
          refine j_iconst hX (1) dX0_keepLeaf_115 (by decide) ?_
          refine j_iload_n hX 3 dX0_keepLeaf_116 rfl ?_
          refine j_iconst hX (0) dX0_keepLeaf_117 (by decide) ?_
          refine j_iconst hX (0) dX0_keepLeaf_118 (by decide) ?_
          refine j_callV hX 4 (c_start l g hh inr outr zo on sp fm nn ht lys fa mk sdr ly tr sda sd ina nl G 1 u 0 0 (by omega) (by omega) hB) gX0_keepLeaf_X5_start (by decide +kernel) rfl ⟨rfl, rfl⟩ ⟨Nat.le_of_ble_eq_true rfl, Nat.le_of_ble_eq_true rfl⟩ 5 1 rfl rfl [1, 2, 3, 4, 5, 6] rfl (by decide) (fun _ => rfl) rfl [] rfl (Nat.le_of_ble_eq_true rfl) ⟨Nat.le_refl _, Nat.le_refl _⟩ dX0_keepLeaf_119 ?_
          intro F1 hF1
          try dsimp only at hF1
          refine j_w [oB ch 0 [.ref lvr, .ref kna, .ref dga, .ref enr, .ref sp, .ref hh], oB hh 5 [.ref inr, .ref outr, .ref zo, .ref on, .ref sp, .ref sdr, .int (nI ly), .int (nI tr)], oB sp 8 [.int (nI fm), .int (nI nn), .int (nI ht), .int (nI lys), .int (nI fa), .int (nI mk)], oB sdr 7 [.ref sda, .int (nI 48)], bA g sda 48 sd, oB inr 7 [.ref ina, .int (nI (hl fm nn))], bA g ina 768 F1, oB outr 7 [.ref outa, .int (nI no1)], bA g outa 32 FO, oB zo 4 [.ref sa, .ref wa], iA g sa 8 S1, iA g wa 64 w1, oB on 3 [.ref aa, .ref ba], lA g aa 25 A1, lA g ba 25 B1, oB lvr 7 [.ref lva, .int (nI 512)], bA g lva 512 lvs, zA g kna 32 kn, oB enr 7 [.ref ena, .int (nI ne1)], bA g ena 560 E1] rfl ?_
          refine j_st [] rfl ?_
          refine j_aload_n hX 0 dX0_keepLeaf_122 rfl ?_
          refine j_get hX in0 0 0 5 (v := .ref hh) rfl rfl (by decide) (List.mem_of_getElem? (i := 1) rfl) rfl rfl dX0_keepLeaf_123 ?_
          refine j_pc 126 rfl ?_
          refine j_get hX in5 5 1 0 (v := .ref inr) rfl rfl (by decide) (List.mem_of_getElem? (i := 6) rfl) rfl rfl dX0_keepLeaf_126 ?_
          refine j_aload_n hX 0 dX0_keepLeaf_129 rfl ?_
          refine j_get hX in0 0 0 3 (v := .ref enr) rfl rfl (by decide) (List.mem_of_getElem? (i := 3) rfl) rfl rfl dX0_keepLeaf_130 ?_
          refine j_callV hX 1 (c_addAll l g inr ina (hl fm nn) 768 F1 enr ena ne1 560 E1 (by omega) (by omega) (by omega) (by omega) hB2 (by omega)) gX0_keepLeaf_X7_addAll (by decide +kernel) rfl ⟨rfl, rfl⟩ ⟨Nat.le_of_ble_eq_true rfl, Nat.le_of_ble_eq_true rfl⟩ 7 5 rfl rfl [5, 6, 18, 19] rfl (by decide) (fun _ => rfl) rfl [] rfl (Nat.le_of_ble_eq_true rfl) ⟨Nat.le_refl _, Nat.le_refl _⟩ dX0_keepLeaf_133 ?_
          intro F2 hF2
          try dsimp only at hF2
          refine j_w [oB ch 0 [.ref lvr, .ref kna, .ref dga, .ref enr, .ref sp, .ref hh], oB hh 5 [.ref inr, .ref outr, .ref zo, .ref on, .ref sp, .ref sdr, .int (nI ly), .int (nI tr)], oB sp 8 [.int (nI fm), .int (nI nn), .int (nI ht), .int (nI lys), .int (nI fa), .int (nI mk)], oB sdr 7 [.ref sda, .int (nI 48)], bA g sda 48 sd, oB inr 7 [.ref ina, .int (nI ((hl fm nn) + ne1))], bA g ina 768 F2, oB outr 7 [.ref outa, .int (nI no1)], bA g outa 32 FO, oB zo 4 [.ref sa, .ref wa], iA g sa 8 S1, iA g wa 64 w1, oB on 3 [.ref aa, .ref ba], lA g aa 25 A1, lA g ba 25 B1, oB lvr 7 [.ref lva, .int (nI 512)], bA g lva 512 lvs, zA g kna 32 kn, oB enr 7 [.ref ena, .int (nI ne1)], bA g ena 560 E1] rfl ?_
          refine j_st [] rfl ?_
          refine j_aload_n hX 0 dX0_keepLeaf_136 rfl ?_
          refine j_get hX in0 0 0 5 (v := .ref hh) rfl rfl (by decide) (List.mem_of_getElem? (i := 1) rfl) rfl rfl dX0_keepLeaf_137 ?_
          refine j_aload_n hX 0 dX0_keepLeaf_140 rfl ?_
          refine j_get hX in0 0 0 0 (v := .ref lvr) rfl rfl (by decide) (List.mem_of_getElem? (i := 7) rfl) rfl rfl dX0_keepLeaf_141 ?_
          refine j_pc 144 rfl ?_
          refine j_iload hX 4 dX0_keepLeaf_144 rfl ?_
          refine j_bipush hX (16) dX0_keepLeaf_146 (by decide) ?_
          refine j_imulN hX (ly * 16 + tr * 4 + u) 16 dX0_keepLeaf_148 ?_
          refine j_callV hX 2 (c_finish l g hh inr outr zo on sp fm nn ht lys fa mk sdr ly tr ina ((hl fm nn) + ne1) F2 outa no1 FO sa wa S1 w1 aa ba A1 B1 lvr lva 512 512 lvs ((ly * 16 + tr * 4 + u) * 16) (by omega) (by omega) (by omega) (by omega) hnl.2 hFO (by omega) (by omega) (by omega) (by omega)) gX0_keepLeaf_X5_finish (by decide +kernel) rfl ⟨rfl, rfl⟩ ⟨Nat.le_of_ble_eq_true rfl, Nat.le_of_ble_eq_true rfl⟩ 5 1 rfl rfl [1, 2, 5, 6, 7, 8, 9, 10, 11, 12, 13, 14, 15, 16] rfl (by decide) (fun _ => rfl) rfl [] rfl (Nat.le_of_ble_eq_true rfl) ⟨Nat.le_refl _, Nat.le_refl _⟩ dX0_keepLeaf_149 ?_
          rintro ⟨S7, w7, A7, B7, nl7, G7, FO7, TO7⟩ hE
          try dsimp only at hE
          refine j_w [oB ch 0 [.ref lvr, .ref kna, .ref dga, .ref enr, .ref sp, .ref hh], oB hh 5 [.ref inr, .ref outr, .ref zo, .ref on, .ref sp, .ref sdr, .int (nI ly), .int (nI tr)], oB sp 8 [.int (nI fm), .int (nI nn), .int (nI ht), .int (nI lys), .int (nI fa), .int (nI mk)], oB sdr 7 [.ref sda, .int (nI 48)], bA g sda 48 sd, oB inr 7 [.ref ina, .int (nI nl7)], bA g ina 768 G7, oB outr 7 [.ref outa, .int (nI 32)], bA g outa 32 FO7, oB zo 4 [.ref sa, .ref wa], iA g sa 8 S7, iA g wa 64 w7, oB on 3 [.ref aa, .ref ba], lA g aa 25 A7, lA g ba 25 B7, oB lvr 7 [.ref lva, .int (nI (max 512 (((ly * 16 + tr * 4 + u) * 16) + nn)))], bA g lva 512 TO7, zA g kna 32 kn, oB enr 7 [.ref ena, .int (nI ne1)], bA g ena 560 E1] rfl ?_
          refine j_st [] rfl ?_
          rw [hF2, hF1, putL_app' (by rw [hdl, Nat.zero_add]), slice_put (by rw [List.length_append, hdl, slice_length]), hO, slice_put (by rw [eL_length (by omega), hnek, Nat.mul_comm]), hkl] at hE
          obtain ⟨hCa2, hSl⟩ := cache_put (x := vp_nar .boolean 1) hCa hnn hly htr hu4 hE.2.2
          refine j_w [oB ch 0 [.ref lvr, .ref kna, .ref dga, .ref enr, .ref sp, .ref hh], oB hh 5 [.ref inr, .ref outr, .ref zo, .ref on, .ref sp, .ref sdr, .int (nI ly), .int (nI tr)], oB sp 8 [.int (nI fm), .int (nI nn), .int (nI ht), .int (nI lys), .int (nI fa), .int (nI mk)], oB sdr 7 [.ref sda, .int (nI 48)], bA g sda 48 sd, oB inr 7 [.ref ina, .int (nI nl7)], bA g ina 768 G7, oB outr 7 [.ref outa, .int (nI 32)], bA g outa 32 FO7, oB zo 4 [.ref sa, .ref wa], iA g sa 8 S7, iA g wa 64 w7, oB on 3 [.ref aa, .ref ba], lA g aa 25 A7, lA g ba 25 B7, oB lvr 7 [.ref lva, .int (nI 512)], bA g lva 512 TO7, zA g kna 32 kn, oB enr 7 [.ref ena, .int (nI ne1)], bA g ena 560 E1] (by rw [show max 512 ((ly * 16 + tr * 4 + u) * 16 + nn) = 512 by omega]) ?_
          refine j_aload_n hX 0 dX0_keepLeaf_152 rfl ?_
          refine j_get hX in0 0 0 1 (v := .ref kna) rfl rfl (by decide) (List.mem_of_getElem? (i := 2) rfl) rfl rfl dX0_keepLeaf_153 ?_
          refine j_iload hX 4 dX0_keepLeaf_156 rfl ?_
          refine j_iconst hX (1) dX0_keepLeaf_158 (by decide) ?_
          refine j_pc 159 rfl ?_
          refine j_zastN hX 17 (ly * 16 + tr * 4 + u) rfl (by omega) (by omega) [oB ch 0 [.ref lvr, .ref kna, .ref dga, .ref enr, .ref sp, .ref hh], oB hh 5 [.ref inr, .ref outr, .ref zo, .ref on, .ref sp, .ref sdr, .int (nI ly), .int (nI tr)], oB sp 8 [.int (nI fm), .int (nI nn), .int (nI ht), .int (nI lys), .int (nI fa), .int (nI mk)], oB sdr 7 [.ref sda, .int (nI 48)], bA g sda 48 sd, oB inr 7 [.ref ina, .int (nI nl7)], bA g ina 768 G7, oB outr 7 [.ref outa, .int (nI 32)], bA g outa 32 FO7, oB zo 4 [.ref sa, .ref wa], iA g sa 8 S7, iA g wa 64 w7, oB on 3 [.ref aa, .ref ba], lA g aa 25 A7, lA g ba 25 B7, oB lvr 7 [.ref lva, .int (nI 512)], bA g lva 512 TO7, zA g kna 32 (upd kn (ly * 16 + tr * 4 + u) (vp_nar .boolean 1)), oB enr 7 [.ref ena, .int (nI ne1)], bA g ena 560 E1] rfl dX0_keepLeaf_159 ?_
          exact hret (32, S7, w7, A7, B7, nl7, G7, FO7, TO7, upd kn (ly * 16 + tr * 4 + u) (vp_nar .boolean 1), ne1, E1) (by dsimp only; exact ⟨⟨hE.1, Nat.le_refl _, hne560⟩, hE.2.1, by rw [hE.2.2]; exact putL_B hLB (TT_B _ _ _ _ _ _ _ _ _ _), hB2, hCa2, hSl⟩) 160 _ .return_ dX0_keepLeaf_160 rfl
        · skip
          refine j_aload_n hX 0 dX0_keepLeaf_62 rfl ?_
          refine j_get hX in0 0 0 5 (v := .ref hh) rfl rfl (by decide) (List.mem_of_getElem? (i := 1) rfl) rfl rfl dX0_keepLeaf_63 ?_
          refine j_iconst hX (5) dX0_keepLeaf_66 (by decide) ?_
          refine j_iload_n hX 3 dX0_keepLeaf_67 rfl ?_
          refine j_iload hX 5 dX0_keepLeaf_68 rfl ?_
          refine j_iconst hX (0) dX0_keepLeaf_70 (by decide) ?_
          refine j_pc 71 rfl ?_
          refine j_aload_n hX 0 dX0_keepLeaf_71 rfl ?_
          refine j_get hX in0 0 0 3 (v := .ref enr) rfl rfl (by decide) (List.mem_of_getElem? (i := 3) rfl) rfl rfl dX0_keepLeaf_72 ?_
          refine j_callV hX 5 (c_addSecret l g hh inr outr zo on sp fm nn ht lys fa mk sdr ly tr sda sd ina nl G outa no1 FO sa wa S1 w1 aa ba A1 B1 enr ena ne1 560 E1 5 u k 0 (by omega) (by omega) hB hnl.2 hFO (by have h9 := mul_lt_ln hnn (show k < ln nn by omega); rw [Nat.mul_comm] at h9; omega) (by omega) (by have h9 := mul_lt_ln hnn (show k < ln nn by omega); rw [Nat.mul_comm] at h9; omega)) gX0_keepLeaf_X5_addSecret (by decide +kernel) rfl ⟨rfl, rfl⟩ ⟨Nat.le_of_ble_eq_true rfl, Nat.le_of_ble_eq_true rfl⟩ 5 1 rfl rfl [1, 2, 3, 4, 5, 6, 7, 8, 9, 10, 11, 12, 13, 14, 18, 19] rfl (by decide) (fun _ => rfl) rfl [] rfl (Nat.le_of_ble_eq_true rfl) ⟨Nat.le_refl _, Nat.le_refl _⟩ dX0_keepLeaf_75 ?_
          rintro ⟨S5, w5, A5, B5, nl5, G5, FO5, TO5⟩ hS
          try dsimp only at hS
          refine j_w [oB ch 0 [.ref lvr, .ref kna, .ref dga, .ref enr, .ref sp, .ref hh], oB hh 5 [.ref inr, .ref outr, .ref zo, .ref on, .ref sp, .ref sdr, .int (nI ly), .int (nI tr)], oB sp 8 [.int (nI fm), .int (nI nn), .int (nI ht), .int (nI lys), .int (nI fa), .int (nI mk)], oB sdr 7 [.ref sda, .int (nI 48)], bA g sda 48 sd, oB inr 7 [.ref ina, .int (nI nl5)], bA g ina 768 G5, oB outr 7 [.ref outa, .int (nI 32)], bA g outa 32 FO5, oB zo 4 [.ref sa, .ref wa], iA g sa 8 S5, iA g wa 64 w5, oB on 3 [.ref aa, .ref ba], lA g aa 25 A5, lA g ba 25 B5, oB lvr 7 [.ref lva, .int (nI 512)], bA g lva 512 lvs, zA g kna 32 kn, oB enr 7 [.ref ena, .int (nI (ne1 + nn))], bA g ena 560 TO5] rfl ?_
          refine j_st [] rfl ?_
          refine j_aload_n hX 0 dX0_keepLeaf_78 rfl ?_
          refine j_get hX in0 0 0 5 (v := .ref hh) rfl rfl (by decide) (List.mem_of_getElem? (i := 1) rfl) rfl rfl dX0_keepLeaf_79 ?_
          refine j_aload_n hX 0 dX0_keepLeaf_82 rfl ?_
          refine j_get hX in0 0 0 3 (v := .ref enr) rfl rfl (by decide) (List.mem_of_getElem? (i := 3) rfl) rfl rfl dX0_keepLeaf_83 ?_
          refine j_iload hX 5 dX0_keepLeaf_86 rfl ?_
          refine j_pc 88 rfl ?_
          refine j_aload_n hX 0 dX0_keepLeaf_88 rfl ?_
          refine j_get hX in0 0 0 4 (v := .ref sp) rfl rfl (by decide) (List.mem_of_getElem? (i := 4) rfl) rfl rfl dX0_keepLeaf_89 ?_
          refine j_get hX in8 8 2 1 (v := .int (nI nn)) rfl rfl (by decide) (List.mem_of_getElem? (i := 5) rfl) rfl rfl dX0_keepLeaf_92 ?_
          refine j_imulN hX k nn dX0_keepLeaf_95 ?_
          refine j_iconst hX (0) dX0_keepLeaf_96 (by decide) ?_
          refine j_bipush hX (15) dX0_keepLeaf_97 (by decide) ?_
          refine j_iload_n hX 3 dX0_keepLeaf_99 rfl ?_
          refine j_iload hX 5 dX0_keepLeaf_100 rfl ?_
          refine j_pc 102 rfl ?_
          refine j_callV hX 6 (c_hchain l g hh inr outr zo on sp fm nn ht lys fa mk sdr ly tr sda sd ina nl5 G5 outa 32 FO5 sa wa S5 w5 aa ba A5 B5 enr ena (ne1 + nn) 560 TO5 (k * nn) 0 15 u k (by omega) (by omega) hB (by omega) hS.2.1 (by have h9 := mul_lt_ln hnn (show k < ln nn by omega); rw [Nat.mul_comm] at h9; omega) (by omega) hS.1 (by omega) (by rw [hS.2.2]; exact putL_B hB2 (TT_B _ _ _ _ _ _ _ _ _ _)) (by omega)) gX0_keepLeaf_X5_chain (by decide +kernel) rfl ⟨rfl, rfl⟩ ⟨Nat.le_of_ble_eq_true rfl, Nat.le_of_ble_eq_true rfl⟩ 5 1 rfl rfl [1, 2, 3, 4, 5, 6, 7, 8, 9, 10, 11, 12, 13, 14, 18, 19] rfl (by decide) (fun _ => rfl) rfl [] rfl (Nat.le_of_ble_eq_true rfl) ⟨Nat.le_refl _, Nat.le_refl _⟩ dX0_keepLeaf_102 ?_
          rintro ⟨no6, S6, w6, A6, B6, nl6, G6, FO6, TO6⟩ hC
          try dsimp only at hC
          refine j_w [oB ch 0 [.ref lvr, .ref kna, .ref dga, .ref enr, .ref sp, .ref hh], oB hh 5 [.ref inr, .ref outr, .ref zo, .ref on, .ref sp, .ref sdr, .int (nI ly), .int (nI tr)], oB sp 8 [.int (nI fm), .int (nI nn), .int (nI ht), .int (nI lys), .int (nI fa), .int (nI mk)], oB sdr 7 [.ref sda, .int (nI 48)], bA g sda 48 sd, oB inr 7 [.ref ina, .int (nI nl6)], bA g ina 768 G6, oB outr 7 [.ref outa, .int (nI no6)], bA g outa 32 FO6, oB zo 4 [.ref sa, .ref wa], iA g sa 8 S6, iA g wa 64 w6, oB on 3 [.ref aa, .ref ba], lA g aa 25 A6, lA g ba 25 B6, oB lvr 7 [.ref lva, .int (nI 512)], bA g lva 512 lvs, zA g kna 32 kn, oB enr 7 [.ref ena, .int (nI (ne1 + nn))], bA g ena 560 TO6] rfl ?_
          refine j_st [] rfl ?_
          refine j_iincN hX k (k + 1) [(5, .int (nI (k + 1))), (0, .ref ch), (1, .int (nI ly)), (2, .int (nI tr)), (3, .int (nI u)), (4, .int (nI (ly * 16 + tr * 4 + u)))] 5 dX0_keepLeaf_105 rfl (nI_1 _) (by decide) rfl ?_
          refine j_goto hX 50 dX0_keepLeaf_108 (by decide) ?_
          refine j_perm [(0, .ref ch), (1, .int (nI ly)), (2, .int (nI tr)), (3, .int (nI u)), (4, .int (nI (ly * 16 + tr * 4 + u))), (5, .int (nI (k + 1)))] [1, 2, 3, 4, 5, 0] rfl ?_
          exact ih_6 (k + 1) no6 S6 w6 A6 B6 nl6 G6 FO6 (ne1 + nn) TO6 (by omega) (by omega) hC.1 hC.2.1 hC.2.2.1 (by rw [hne1, Nat.succ_mul]) (eL_step hnn (by rw [Nat.mul_comm]) hO (by rw [hS.2.2, hne1]) hC.2.2.2)
    refine j_perm [(0, .ref ch), (1, .int (nI ly)), (2, .int (nI tr)), (3, .int (nI u)), (4, .int (nI (ly * 16 + tr * 4 + u))), (5, .int (nI 0))] [2, 3, 4, 5, 1, 0] rfl ?_
    exact lp_4 _ 0 no S0 w0 A0 B0 ni fi fo 0 ef (Nat.lt_succ_self _) (by omega) ⟨hni0, hno⟩ hBo hEB (by omega) (by rw [eL, putL_nil])
  · skip
    exact hret (no, S0, w0, A0, B0, ni, fi, fo, lvs, kn, ne, ef) (by dsimp only; exact ⟨⟨hni0, hno, hne⟩, hBo, hLB, hEB, hCa, cache_get hCa hly htr hu4 b_36⟩) 39 _ .return_ dX0_keepLeaf_39 rfl

