/-! the reference's MIXED, POINTS -/
def ixV (ix : Nat → Nat) (mk j : Nat) : Int32 := if j < 2 + mk then nI (ix j) else -9
theorem read_at {d D : Nat → Int32} {X : List Int32} {n : Nat} (h : D = putL d 0 X) (hX : X.length = n) : ∀ j, j < n → D j = lF X j := fun j hj => lF_read h (by omega)
theorem sib_bd {u h z : Nat} (hu : u < 2 ^ h) (hz : z < h) : sib (u / 2 ^ z) < 2 ^ (h - z) := by
  have h0 : u / 2 ^ h = 0 := Nat.div_eq_of_lt hu
  have h1 := sib_at (j := u) hz
  rw [h0, Nat.zero_mul, Nat.zero_add] at h1
  rw [← h1]
  exact Nat.mod_lt _ (Nat.two_pow_pos _)
theorem sib_even (q x : Nat) : sib (2 * q + x) = 2 * q + sib x := by
  unfold sib
  by_cases h : x % 2 = 0
  · rw [if_pos h, if_pos (by omega)]; omega
  · rw [if_neg h, if_neg (by omega)]; omega
theorem sib_off {q c h z : Nat} (hz : z < h) : sib ((q * 2 ^ h + c) / 2 ^ z) = q * 2 ^ (h - z) + sib (c / 2 ^ z) := by
  have e1 : q * 2 ^ h = 2 ^ z * (q * 2 ^ (h - z)) := by
    rw [Nat.mul_left_comm, ← Nat.pow_add, show z + (h - z) = h by omega]
  rw [e1, Nat.mul_add_div (Nat.two_pow_pos z), pow_half hz, Nat.mul_left_comm, sib_even]
theorem off_top {q c h : Nat} (hc : c < 2 ^ h) : (q * 2 ^ h + c) / 2 ^ h = q := div_at hc
theorem slice_B2 {f : Nat → Int32} {X : List Int32} {s n : Nat} (hf : isB f) (h : slice f s n = X) : isBL X := h ▸ slice_B hf s n

set_option maxRecDepth 20000 in
theorem ggX11_mixRand_X11_layPadded : GoodIn wsX11_mixRand wsX11_layPadded := goodIn_r _ [12, 4, 13, 14, 15, 16, 11, 17, 18, 1, 74, 75, 76, 77, 78, 79, 80, 81, 82, 83, 84, 85, 86, 87, 88, 89, 90, 91, 92, 93, 94, 95, 96, 97, 98, 99, 100, 101, 102, 103, 104, 105, 106, 107, 108, 109, 110, 111, 112, 113, 114, 115, 116] rfl (by decide +kernel)
set_option maxRecDepth 20000 in
theorem gX11_mixRand_X11_layPadded : GoodIn wsX11_mixRand (wsV RX11 295 RX11 yX11_layPadded wsX11_layPadded) := goodIn_app (goodIn_of _ (by decide +kernel)) ggX11_mixRand_X11_layPadded
set_option maxRecDepth 20000 in
theorem ggX11_mixRand_X11_laySeed : GoodIn wsX11_mixRand wsX11_laySeed := goodIn_r _ [22, 4, 13, 14, 15, 16, 11, 17, 18, 1, 74, 75, 76, 77, 78, 79, 80, 81, 82, 83, 84, 85, 86, 87, 88, 89, 90, 91, 92, 93, 94, 95, 96, 97, 98, 99, 100, 101, 102, 103, 104, 105, 106, 107, 108, 109, 110, 111, 112, 113, 114, 115, 116] rfl (by decide +kernel)
set_option maxRecDepth 20000 in
theorem gX11_mixRand_X11_laySeed : GoodIn wsX11_mixRand (wsV RX11 253 RX11 yX11_laySeed wsX11_laySeed) := goodIn_app (goodIn_of _ (by decide +kernel)) ggX11_mixRand_X11_laySeed
set_option maxRecDepth 20000 in
theorem ggX11_mixRand_X11_layRow : GoodIn wsX11_mixRand wsX11_layRow := goodIn_r _ [26, 14, 15, 16, 11, 17, 18, 1, 74, 75, 76, 77, 78, 79, 80, 81, 82, 83, 84, 85, 86, 87, 88, 89, 90, 91, 92, 93, 94, 95, 96, 97, 98, 99, 100, 101, 102, 103, 104, 105, 106, 107, 108, 109, 110, 111, 112, 113, 114, 115, 116] rfl (by decide +kernel)
set_option maxRecDepth 20000 in
theorem gX11_mixRand_X11_layRow : GoodIn wsX11_mixRand (wsV RX11 270 RX11 yX11_layRow wsX11_layRow) := goodIn_app (goodIn_of _ (by decide +kernel)) ggX11_mixRand_X11_layRow
set_option maxRecDepth 20000 in
theorem ggX11_mixRand_X11_layTape : GoodIn wsX11_mixRand wsX11_layTape := goodIn_r _ [30, 31, 32, 14, 15, 16, 11, 17, 18, 1, 74, 75, 76, 77, 78, 79, 80, 81, 82, 83, 84, 85, 86, 87, 88, 89, 90, 91, 92, 93, 94, 95, 96, 97, 98, 99, 100, 101, 102, 103, 104, 105, 106, 107, 108, 109, 110, 111, 112, 113, 114, 115, 116] rfl (by decide +kernel)
set_option maxRecDepth 20000 in
theorem gX11_mixRand_X11_layTape : GoodIn wsX11_mixRand (wsV RX11 232 RX11 yX11_layTape wsX11_layTape) := goodIn_app (goodIn_of _ (by decide +kernel)) ggX11_mixRand_X11_layTape
set_option maxRecDepth 20000 in
theorem ggX11_mixRand_X11_hashLaid : GoodIn wsX11_mixRand wsX11_hashLaid := goodIn_r _ [36, 37, 38, 39, 11, 40, 41, 1, 42, 43, 6, 14, 15, 16, 17, 18, 44, 45, 46, 47, 48, 49, 50, 51, 52, 53, 54, 55, 56, 57, 58, 59, 60, 61, 62, 63, 64, 65, 66, 67, 68, 69, 70, 71, 72, 73, 74, 75, 76, 77, 78, 79, 80, 81, 82, 83, 84, 85, 86, 87, 88, 89, 90, 91, 92, 93, 94, 95, 96, 97, 98, 99, 100, 101, 102, 103, 104, 105, 106, 107, 108, 109, 110, 111, 112, 113, 114, 115, 116] rfl (by decide +kernel)
set_option maxRecDepth 20000 in
theorem gX11_mixRand_X11_hashLaid : GoodIn wsX11_mixRand (wsV RX11 235 RX11 yX11_hashLaid wsX11_hashLaid) := goodIn_app (goodIn_of _ (by decide +kernel)) ggX11_mixRand_X11_hashLaid
theorem dX11_mixRand_0 : decode cX11_mixRand 0 = .ok (.aload_n 0, 1) := by decide +kernel
theorem dX11_mixRand_1 : decode cX11_mixRand 1 = .ok (.iconst 0, 1) := by decide +kernel
theorem dX11_mixRand_2 : decode cX11_mixRand 2 = .ok (.putfield 195, 3) := by decide +kernel
theorem dX11_mixRand_5 : decode cX11_mixRand 5 = .ok (.aload_n 0, 1) := by decide +kernel
theorem dX11_mixRand_6 : decode cX11_mixRand 6 = .ok (.getfield 162, 3) := by decide +kernel
theorem dX11_mixRand_9 : decode cX11_mixRand 9 = .ok (.ifCond .ne 12, 3) := by decide +kernel
theorem dX11_mixRand_12 : decode cX11_mixRand 12 = .ok (.aload_n 0, 1) := by decide +kernel
theorem dX11_mixRand_13 : decode cX11_mixRand 13 = .ok (.bipush 54, 2) := by decide +kernel
theorem dX11_mixRand_15 : decode cX11_mixRand 15 = .ok (.invokevirtual 295, 3) := by decide +kernel
theorem dX11_mixRand_18 : decode cX11_mixRand 18 = .ok (.goto 8, 3) := by decide +kernel
theorem dX11_mixRand_21 : decode cX11_mixRand 21 = .ok (.aload_n 0, 1) := by decide +kernel
theorem dX11_mixRand_22 : decode cX11_mixRand 22 = .ok (.iconst 1, 1) := by decide +kernel
theorem dX11_mixRand_23 : decode cX11_mixRand 23 = .ok (.invokevirtual 253, 3) := by decide +kernel
theorem dX11_mixRand_26 : decode cX11_mixRand 26 = .ok (.aload_n 0, 1) := by decide +kernel
theorem dX11_mixRand_27 : decode cX11_mixRand 27 = .ok (.aload_n 0, 1) := by decide +kernel
theorem dX11_mixRand_28 : decode cX11_mixRand 28 = .ok (.getfield 141, 3) := by decide +kernel
theorem dX11_mixRand_31 : decode cX11_mixRand 31 = .ok (.iconst 0, 1) := by decide +kernel
theorem dX11_mixRand_32 : decode cX11_mixRand 32 = .ok (.aload_n 0, 1) := by decide +kernel
theorem dX11_mixRand_33 : decode cX11_mixRand 33 = .ok (.getfield 166, 3) := by decide +kernel
theorem dX11_mixRand_36 : decode cX11_mixRand 36 = .ok (.invokevirtual 270, 3) := by decide +kernel
theorem dX11_mixRand_39 : decode cX11_mixRand 39 = .ok (.aload_n 0, 1) := by decide +kernel
theorem dX11_mixRand_40 : decode cX11_mixRand 40 = .ok (.invokevirtual 232, 3) := by decide +kernel
theorem dX11_mixRand_43 : decode cX11_mixRand 43 = .ok (.aload_n 0, 1) := by decide +kernel
theorem dX11_mixRand_44 : decode cX11_mixRand 44 = .ok (.aload_n 0, 1) := by decide +kernel
theorem dX11_mixRand_45 : decode cX11_mixRand 45 = .ok (.getfield 162, 3) := by decide +kernel
theorem dX11_mixRand_48 : decode cX11_mixRand 48 = .ok (.invokevirtual 235, 3) := by decide +kernel
theorem dX11_mixRand_51 : decode cX11_mixRand 51 = .ok (.aload_n 0, 1) := by decide +kernel
theorem dX11_mixRand_52 : decode cX11_mixRand 52 = .ok (.getfield 162, 3) := by decide +kernel
theorem dX11_mixRand_55 : decode cX11_mixRand 55 = .ok (.ifCond .ne 56, 3) := by decide +kernel
theorem dX11_mixRand_58 : decode cX11_mixRand 58 = .ok (.iconst 0, 1) := by decide +kernel
theorem dX11_mixRand_59 : decode cX11_mixRand 59 = .ok (.istore_n 1, 1) := by decide +kernel
theorem dX11_mixRand_60 : decode cX11_mixRand 60 = .ok (.iload_n 1, 1) := by decide +kernel
theorem dX11_mixRand_61 : decode cX11_mixRand 61 = .ok (.bipush 32, 2) := by decide +kernel
theorem dX11_mixRand_63 : decode cX11_mixRand 63 = .ok (.if_icmp .ge 21, 3) := by decide +kernel
theorem dX11_mixRand_66 : decode cX11_mixRand 66 = .ok (.aload_n 0, 1) := by decide +kernel
theorem dX11_mixRand_67 : decode cX11_mixRand 67 = .ok (.getfield 138, 3) := by decide +kernel
theorem dX11_mixRand_70 : decode cX11_mixRand 70 = .ok (.iload_n 1, 1) := by decide +kernel
theorem dX11_mixRand_71 : decode cX11_mixRand 71 = .ok (.aload_n 0, 1) := by decide +kernel
theorem dX11_mixRand_72 : decode cX11_mixRand 72 = .ok (.getfield 16, 3) := by decide +kernel
theorem dX11_mixRand_75 : decode cX11_mixRand 75 = .ok (.iload_n 1, 1) := by decide +kernel
theorem dX11_mixRand_76 : decode cX11_mixRand 76 = .ok (.baload, 1) := by decide +kernel
theorem dX11_mixRand_77 : decode cX11_mixRand 77 = .ok (.bastore, 1) := by decide +kernel
theorem dX11_mixRand_78 : decode cX11_mixRand 78 = .ok (.iinc 1 1, 3) := by decide +kernel
theorem dX11_mixRand_81 : decode cX11_mixRand 81 = .ok (.goto (-21), 3) := by decide +kernel
theorem dX11_mixRand_84 : decode cX11_mixRand 84 = .ok (.aload_n 0, 1) := by decide +kernel
theorem dX11_mixRand_85 : decode cX11_mixRand 85 = .ok (.iconst 0, 1) := by decide +kernel
theorem dX11_mixRand_86 : decode cX11_mixRand 86 = .ok (.putfield 195, 3) := by decide +kernel
theorem dX11_mixRand_89 : decode cX11_mixRand 89 = .ok (.aload_n 0, 1) := by decide +kernel
theorem dX11_mixRand_90 : decode cX11_mixRand 90 = .ok (.bipush 92, 2) := by decide +kernel
theorem dX11_mixRand_92 : decode cX11_mixRand 92 = .ok (.invokevirtual 295, 3) := by decide +kernel
theorem dX11_mixRand_95 : decode cX11_mixRand 95 = .ok (.aload_n 0, 1) := by decide +kernel
theorem dX11_mixRand_96 : decode cX11_mixRand 96 = .ok (.aload_n 0, 1) := by decide +kernel
theorem dX11_mixRand_97 : decode cX11_mixRand 97 = .ok (.getfield 138, 3) := by decide +kernel
theorem dX11_mixRand_100 : decode cX11_mixRand 100 = .ok (.iconst 0, 1) := by decide +kernel
theorem dX11_mixRand_101 : decode cX11_mixRand 101 = .ok (.bipush 32, 2) := by decide +kernel
theorem dX11_mixRand_103 : decode cX11_mixRand 103 = .ok (.invokevirtual 270, 3) := by decide +kernel
theorem dX11_mixRand_106 : decode cX11_mixRand 106 = .ok (.aload_n 0, 1) := by decide +kernel
theorem dX11_mixRand_107 : decode cX11_mixRand 107 = .ok (.iconst 0, 1) := by decide +kernel
theorem dX11_mixRand_108 : decode cX11_mixRand 108 = .ok (.invokevirtual 235, 3) := by decide +kernel
theorem dX11_mixRand_111 : decode cX11_mixRand 111 = .ok (.iconst 0, 1) := by decide +kernel
theorem dX11_mixRand_112 : decode cX11_mixRand 112 = .ok (.istore_n 1, 1) := by decide +kernel
theorem dX11_mixRand_113 : decode cX11_mixRand 113 = .ok (.iload_n 1, 1) := by decide +kernel
theorem dX11_mixRand_114 : decode cX11_mixRand 114 = .ok (.aload_n 0, 1) := by decide +kernel
theorem dX11_mixRand_115 : decode cX11_mixRand 115 = .ok (.getfield 166, 3) := by decide +kernel
theorem dX11_mixRand_118 : decode cX11_mixRand 118 = .ok (.if_icmp .ge 21, 3) := by decide +kernel
theorem dX11_mixRand_121 : decode cX11_mixRand 121 = .ok (.aload_n 0, 1) := by decide +kernel
theorem dX11_mixRand_122 : decode cX11_mixRand 122 = .ok (.getfield 144, 3) := by decide +kernel
theorem dX11_mixRand_125 : decode cX11_mixRand 125 = .ok (.iload_n 1, 1) := by decide +kernel
theorem dX11_mixRand_126 : decode cX11_mixRand 126 = .ok (.aload_n 0, 1) := by decide +kernel
theorem dX11_mixRand_127 : decode cX11_mixRand 127 = .ok (.getfield 16, 3) := by decide +kernel
theorem dX11_mixRand_130 : decode cX11_mixRand 130 = .ok (.iload_n 1, 1) := by decide +kernel
theorem dX11_mixRand_131 : decode cX11_mixRand 131 = .ok (.baload, 1) := by decide +kernel
theorem dX11_mixRand_132 : decode cX11_mixRand 132 = .ok (.bastore, 1) := by decide +kernel
theorem dX11_mixRand_133 : decode cX11_mixRand 133 = .ok (.iinc 1 1, 3) := by decide +kernel
theorem dX11_mixRand_136 : decode cX11_mixRand 136 = .ok (.goto (-23), 3) := by decide +kernel
theorem dX11_mixRand_139 : decode cX11_mixRand 139 = .ok (.return_, 1) := by decide +kernel
set_option maxRecDepth 20000 in
theorem ggX11_point_X11_layRow : GoodIn wsX11_point wsX11_layRow := goodIn_r _ [16, 17, 18, 19, 15, 20, 21, 1, 74, 75, 76, 77, 78, 79, 80, 81, 82, 83, 84, 85, 86, 87, 88, 89, 90, 91, 92, 93, 94, 95, 96, 97, 98, 99, 100, 101, 102, 103, 104, 105, 106, 107, 108, 109, 110, 111, 112, 113, 114, 115, 116] rfl (by decide +kernel)
set_option maxRecDepth 20000 in
theorem gX11_point_X11_layRow : GoodIn wsX11_point (wsV RX11 270 RX11 yX11_layRow wsX11_layRow) := goodIn_app (goodIn_of _ (by decide +kernel)) ggX11_point_X11_layRow
set_option maxRecDepth 20000 in
theorem ggX11_point_X11_laySeed : GoodIn wsX11_point wsX11_laySeed := goodIn_r _ [25, 2, 26, 17, 18, 19, 15, 20, 21, 1, 74, 75, 76, 77, 78, 79, 80, 81, 82, 83, 84, 85, 86, 87, 88, 89, 90, 91, 92, 93, 94, 95, 96, 97, 98, 99, 100, 101, 102, 103, 104, 105, 106, 107, 108, 109, 110, 111, 112, 113, 114, 115, 116] rfl (by decide +kernel)
set_option maxRecDepth 20000 in
theorem gX11_point_X11_laySeed : GoodIn wsX11_point (wsV RX11 253 RX11 yX11_laySeed wsX11_laySeed) := goodIn_app (goodIn_of _ (by decide +kernel)) ggX11_point_X11_laySeed
set_option maxRecDepth 20000 in
theorem ggX11_point_X11_layTape : GoodIn wsX11_point wsX11_layTape := goodIn_r _ [30, 31, 32, 17, 18, 19, 15, 20, 21, 1, 74, 75, 76, 77, 78, 79, 80, 81, 82, 83, 84, 85, 86, 87, 88, 89, 90, 91, 92, 93, 94, 95, 96, 97, 98, 99, 100, 101, 102, 103, 104, 105, 106, 107, 108, 109, 110, 111, 112, 113, 114, 115, 116] rfl (by decide +kernel)
set_option maxRecDepth 20000 in
theorem gX11_point_X11_layTape : GoodIn wsX11_point (wsV RX11 232 RX11 yX11_layTape wsX11_layTape) := goodIn_app (goodIn_of _ (by decide +kernel)) ggX11_point_X11_layTape
set_option maxRecDepth 20000 in
theorem ggX11_point_X11_hashLaid : GoodIn wsX11_point wsX11_hashLaid := goodIn_r _ [36, 37, 38, 39, 15, 40, 41, 1, 42, 43, 6, 17, 18, 19, 20, 21, 44, 45, 46, 47, 48, 49, 50, 51, 52, 53, 54, 55, 56, 57, 58, 59, 60, 61, 62, 63, 64, 65, 66, 67, 68, 69, 70, 71, 72, 73, 74, 75, 76, 77, 78, 79, 80, 81, 82, 83, 84, 85, 86, 87, 88, 89, 90, 91, 92, 93, 94, 95, 96, 97, 98, 99, 100, 101, 102, 103, 104, 105, 106, 107, 108, 109, 110, 111, 112, 113, 114, 115, 116] rfl (by decide +kernel)
set_option maxRecDepth 20000 in
theorem gX11_point_X11_hashLaid : GoodIn wsX11_point (wsV RX11 235 RX11 yX11_hashLaid wsX11_hashLaid) := goodIn_app (goodIn_of _ (by decide +kernel)) ggX11_point_X11_hashLaid
set_option maxRecDepth 20000 in
theorem ggX11_point_X11_layNumber : GoodIn wsX11_point wsX11_layNumber := goodIn_r _ [47, 17, 18, 19, 15, 20, 21, 1, 74, 75, 76, 77, 78, 79, 80, 81, 82, 83, 84, 85, 86, 87, 88, 89, 90, 91, 92, 93, 94, 95, 96, 97, 98, 99, 100, 101, 102, 103, 104, 105, 106, 107, 108, 109, 110, 111, 112, 113, 114, 115, 116] rfl (by decide +kernel)
set_option maxRecDepth 20000 in
theorem gX11_point_X11_layNumber : GoodIn wsX11_point (wsV RX11 208 RX11 yX11_layNumber wsX11_layNumber) := goodIn_app (goodIn_of _ (by decide +kernel)) ggX11_point_X11_layNumber
theorem dX11_point_0 : decode cX11_point 0 = .ok (.aload_n 0, 1) := by decide +kernel
theorem dX11_point_1 : decode cX11_point 1 = .ok (.iconst 0, 1) := by decide +kernel
theorem dX11_point_2 : decode cX11_point 2 = .ok (.putfield 195, 3) := by decide +kernel
theorem dX11_point_5 : decode cX11_point 5 = .ok (.aload_n 0, 1) := by decide +kernel
theorem dX11_point_6 : decode cX11_point 6 = .ok (.aload_n 1, 1) := by decide +kernel
theorem dX11_point_7 : decode cX11_point 7 = .ok (.iconst 0, 1) := by decide +kernel
theorem dX11_point_8 : decode cX11_point 8 = .ok (.aload_n 0, 1) := by decide +kernel
theorem dX11_point_9 : decode cX11_point 9 = .ok (.getfield 166, 3) := by decide +kernel
theorem dX11_point_12 : decode cX11_point 12 = .ok (.invokevirtual 270, 3) := by decide +kernel
theorem dX11_point_15 : decode cX11_point 15 = .ok (.aload_n 0, 1) := by decide +kernel
theorem dX11_point_16 : decode cX11_point 16 = .ok (.iconst 2, 1) := by decide +kernel
theorem dX11_point_17 : decode cX11_point 17 = .ok (.invokevirtual 253, 3) := by decide +kernel
theorem dX11_point_20 : decode cX11_point 20 = .ok (.aload_n 0, 1) := by decide +kernel
theorem dX11_point_21 : decode cX11_point 21 = .ok (.aload_n 0, 1) := by decide +kernel
theorem dX11_point_22 : decode cX11_point 22 = .ok (.getfield 132, 3) := by decide +kernel
theorem dX11_point_25 : decode cX11_point 25 = .ok (.iconst 0, 1) := by decide +kernel
theorem dX11_point_26 : decode cX11_point 26 = .ok (.aload_n 0, 1) := by decide +kernel
theorem dX11_point_27 : decode cX11_point 27 = .ok (.getfield 166, 3) := by decide +kernel
theorem dX11_point_30 : decode cX11_point 30 = .ok (.invokevirtual 270, 3) := by decide +kernel
theorem dX11_point_33 : decode cX11_point 33 = .ok (.aload_n 0, 1) := by decide +kernel
theorem dX11_point_34 : decode cX11_point 34 = .ok (.invokevirtual 232, 3) := by decide +kernel
theorem dX11_point_37 : decode cX11_point 37 = .ok (.aload_n 0, 1) := by decide +kernel
theorem dX11_point_38 : decode cX11_point 38 = .ok (.aload_n 0, 1) := by decide +kernel
theorem dX11_point_39 : decode cX11_point 39 = .ok (.getfield 162, 3) := by decide +kernel
theorem dX11_point_42 : decode cX11_point 42 = .ok (.invokevirtual 235, 3) := by decide +kernel
theorem dX11_point_45 : decode cX11_point 45 = .ok (.aload_n 0, 1) := by decide +kernel
theorem dX11_point_46 : decode cX11_point 46 = .ok (.getfield 162, 3) := by decide +kernel
theorem dX11_point_49 : decode cX11_point 49 = .ok (.ifCond .ne 71, 3) := by decide +kernel
theorem dX11_point_52 : decode cX11_point 52 = .ok (.iconst 0, 1) := by decide +kernel
theorem dX11_point_53 : decode cX11_point 53 = .ok (.istore_n 2, 1) := by decide +kernel
theorem dX11_point_54 : decode cX11_point 54 = .ok (.iload_n 2, 1) := by decide +kernel
theorem dX11_point_55 : decode cX11_point 55 = .ok (.bipush 32, 2) := by decide +kernel
theorem dX11_point_57 : decode cX11_point 57 = .ok (.if_icmp .ge 21, 3) := by decide +kernel
theorem dX11_point_60 : decode cX11_point 60 = .ok (.aload_n 0, 1) := by decide +kernel
theorem dX11_point_61 : decode cX11_point 61 = .ok (.getfield 138, 3) := by decide +kernel
theorem dX11_point_64 : decode cX11_point 64 = .ok (.iload_n 2, 1) := by decide +kernel
theorem dX11_point_65 : decode cX11_point 65 = .ok (.aload_n 0, 1) := by decide +kernel
theorem dX11_point_66 : decode cX11_point 66 = .ok (.getfield 16, 3) := by decide +kernel
theorem dX11_point_69 : decode cX11_point 69 = .ok (.iload_n 2, 1) := by decide +kernel
theorem dX11_point_70 : decode cX11_point 70 = .ok (.baload, 1) := by decide +kernel
theorem dX11_point_71 : decode cX11_point 71 = .ok (.bastore, 1) := by decide +kernel
theorem dX11_point_72 : decode cX11_point 72 = .ok (.iinc 2 1, 3) := by decide +kernel
theorem dX11_point_75 : decode cX11_point 75 = .ok (.goto (-21), 3) := by decide +kernel
theorem dX11_point_78 : decode cX11_point 78 = .ok (.aload_n 0, 1) := by decide +kernel
theorem dX11_point_79 : decode cX11_point 79 = .ok (.iconst 0, 1) := by decide +kernel
theorem dX11_point_80 : decode cX11_point 80 = .ok (.putfield 195, 3) := by decide +kernel
theorem dX11_point_83 : decode cX11_point 83 = .ok (.aload_n 0, 1) := by decide +kernel
theorem dX11_point_84 : decode cX11_point 84 = .ok (.aload_n 1, 1) := by decide +kernel
theorem dX11_point_85 : decode cX11_point 85 = .ok (.iconst 0, 1) := by decide +kernel
theorem dX11_point_86 : decode cX11_point 86 = .ok (.aload_n 0, 1) := by decide +kernel
theorem dX11_point_87 : decode cX11_point 87 = .ok (.getfield 166, 3) := by decide +kernel
theorem dX11_point_90 : decode cX11_point 90 = .ok (.invokevirtual 270, 3) := by decide +kernel
theorem dX11_point_93 : decode cX11_point 93 = .ok (.aload_n 0, 1) := by decide +kernel
theorem dX11_point_94 : decode cX11_point 94 = .ok (.iconst 2, 1) := by decide +kernel
theorem dX11_point_95 : decode cX11_point 95 = .ok (.invokevirtual 253, 3) := by decide +kernel
theorem dX11_point_98 : decode cX11_point 98 = .ok (.aload_n 0, 1) := by decide +kernel
theorem dX11_point_99 : decode cX11_point 99 = .ok (.aload_n 0, 1) := by decide +kernel
theorem dX11_point_100 : decode cX11_point 100 = .ok (.getfield 138, 3) := by decide +kernel
theorem dX11_point_103 : decode cX11_point 103 = .ok (.iconst 0, 1) := by decide +kernel
theorem dX11_point_104 : decode cX11_point 104 = .ok (.bipush 32, 2) := by decide +kernel
theorem dX11_point_106 : decode cX11_point 106 = .ok (.invokevirtual 270, 3) := by decide +kernel
theorem dX11_point_109 : decode cX11_point 109 = .ok (.aload_n 0, 1) := by decide +kernel
theorem dX11_point_110 : decode cX11_point 110 = .ok (.lconst 0, 1) := by decide +kernel
theorem dX11_point_111 : decode cX11_point 111 = .ok (.iconst 4, 1) := by decide +kernel
theorem dX11_point_112 : decode cX11_point 112 = .ok (.invokevirtual 208, 3) := by decide +kernel
theorem dX11_point_115 : decode cX11_point 115 = .ok (.aload_n 0, 1) := by decide +kernel
theorem dX11_point_116 : decode cX11_point 116 = .ok (.iconst 0, 1) := by decide +kernel
theorem dX11_point_117 : decode cX11_point 117 = .ok (.invokevirtual 235, 3) := by decide +kernel
theorem dX11_point_120 : decode cX11_point 120 = .ok (.iconst 0, 1) := by decide +kernel
theorem dX11_point_121 : decode cX11_point 121 = .ok (.istore_n 2, 1) := by decide +kernel
theorem dX11_point_122 : decode cX11_point 122 = .ok (.iload_n 2, 1) := by decide +kernel
theorem dX11_point_123 : decode cX11_point 123 = .ok (.bipush 6, 2) := by decide +kernel
theorem dX11_point_125 : decode cX11_point 125 = .ok (.if_icmp .ge 94, 3) := by decide +kernel
theorem dX11_point_128 : decode cX11_point 128 = .ok (.iconst 0, 1) := by decide +kernel
theorem dX11_point_129 : decode cX11_point 129 = .ok (.istore_n 3, 1) := by decide +kernel
theorem dX11_point_130 : decode cX11_point 130 = .ok (.aload_n 0, 1) := by decide +kernel
theorem dX11_point_131 : decode cX11_point 131 = .ok (.getfield 175, 3) := by decide +kernel
theorem dX11_point_134 : decode cX11_point 134 = .ok (.iload_n 2, 1) := by decide +kernel
theorem dX11_point_135 : decode cX11_point 135 = .ok (.imul, 1) := by decide +kernel
theorem dX11_point_136 : decode cX11_point 136 = .ok (.istore 4, 2) := by decide +kernel
theorem dX11_point_138 : decode cX11_point 138 = .ok (.iload 4, 2) := by decide +kernel
theorem dX11_point_140 : decode cX11_point 140 = .ok (.aload_n 0, 1) := by decide +kernel
theorem dX11_point_141 : decode cX11_point 141 = .ok (.getfield 175, 3) := by decide +kernel
theorem dX11_point_144 : decode cX11_point 144 = .ok (.iload_n 2, 1) := by decide +kernel
theorem dX11_point_145 : decode cX11_point 145 = .ok (.iconst 1, 1) := by decide +kernel
theorem dX11_point_146 : decode cX11_point 146 = .ok (.iadd, 1) := by decide +kernel
theorem dX11_point_147 : decode cX11_point 147 = .ok (.imul, 1) := by decide +kernel
theorem dX11_point_148 : decode cX11_point 148 = .ok (.if_icmp .ge 43, 3) := by decide +kernel
theorem dX11_point_151 : decode cX11_point 151 = .ok (.iload_n 2, 1) := by decide +kernel
theorem dX11_point_152 : decode cX11_point 152 = .ok (.aload_n 0, 1) := by decide +kernel
theorem dX11_point_153 : decode cX11_point 153 = .ok (.getfield 178, 3) := by decide +kernel
theorem dX11_point_156 : decode cX11_point 156 = .ok (.if_icmp .ge 35, 3) := by decide +kernel
theorem dX11_point_159 : decode cX11_point 159 = .ok (.iconst 2, 1) := by decide +kernel
theorem dX11_point_160 : decode cX11_point 160 = .ok (.iload_n 3, 1) := by decide +kernel
theorem dX11_point_161 : decode cX11_point 161 = .ok (.imul, 1) := by decide +kernel
theorem dX11_point_162 : decode cX11_point 162 = .ok (.aload_n 0, 1) := by decide +kernel
theorem dX11_point_163 : decode cX11_point 163 = .ok (.getfield 16, 3) := by decide +kernel
theorem dX11_point_166 : decode cX11_point 166 = .ok (.iload 4, 2) := by decide +kernel
theorem dX11_point_168 : decode cX11_point 168 = .ok (.bipush 8, 2) := by decide +kernel
theorem dX11_point_170 : decode cX11_point 170 = .ok (.idiv, 1) := by decide +kernel
theorem dX11_point_171 : decode cX11_point 171 = .ok (.baload, 1) := by decide +kernel
theorem dX11_point_172 : decode cX11_point 172 = .ok (.bipush 7, 2) := by decide +kernel
theorem dX11_point_174 : decode cX11_point 174 = .ok (.iload 4, 2) := by decide +kernel
theorem dX11_point_176 : decode cX11_point 176 = .ok (.bipush 8, 2) := by decide +kernel
theorem dX11_point_178 : decode cX11_point 178 = .ok (.irem, 1) := by decide +kernel
theorem dX11_point_179 : decode cX11_point 179 = .ok (.isub, 1) := by decide +kernel
theorem dX11_point_180 : decode cX11_point 180 = .ok (.ishr, 1) := by decide +kernel
theorem dX11_point_181 : decode cX11_point 181 = .ok (.iconst 1, 1) := by decide +kernel
theorem dX11_point_182 : decode cX11_point 182 = .ok (.iand, 1) := by decide +kernel
theorem dX11_point_183 : decode cX11_point 183 = .ok (.iadd, 1) := by decide +kernel
theorem dX11_point_184 : decode cX11_point 184 = .ok (.istore_n 3, 1) := by decide +kernel
theorem dX11_point_185 : decode cX11_point 185 = .ok (.iinc 4 1, 3) := by decide +kernel
theorem dX11_point_188 : decode cX11_point 188 = .ok (.goto (-50), 3) := by decide +kernel
theorem dX11_point_191 : decode cX11_point 191 = .ok (.aload_n 0, 1) := by decide +kernel
theorem dX11_point_192 : decode cX11_point 192 = .ok (.getfield 147, 3) := by decide +kernel
theorem dX11_point_195 : decode cX11_point 195 = .ok (.iconst 2, 1) := by decide +kernel
theorem dX11_point_196 : decode cX11_point 196 = .ok (.iload_n 2, 1) := by decide +kernel
theorem dX11_point_197 : decode cX11_point 197 = .ok (.iadd, 1) := by decide +kernel
theorem dX11_point_198 : decode cX11_point 198 = .ok (.iload_n 2, 1) := by decide +kernel
theorem dX11_point_199 : decode cX11_point 199 = .ok (.aload_n 0, 1) := by decide +kernel
theorem dX11_point_200 : decode cX11_point 200 = .ok (.getfield 178, 3) := by decide +kernel
theorem dX11_point_203 : decode cX11_point 203 = .ok (.if_icmp .ge 7, 3) := by decide +kernel
theorem dX11_point_206 : decode cX11_point 206 = .ok (.iload_n 3, 1) := by decide +kernel
theorem dX11_point_207 : decode cX11_point 207 = .ok (.goto 5, 3) := by decide +kernel
theorem dX11_point_210 : decode cX11_point 210 = .ok (.bipush (-9), 2) := by decide +kernel
theorem dX11_point_212 : decode cX11_point 212 = .ok (.iastore, 1) := by decide +kernel
theorem dX11_point_213 : decode cX11_point 213 = .ok (.iinc 2 1, 3) := by decide +kernel
theorem dX11_point_216 : decode cX11_point 216 = .ok (.goto (-94), 3) := by decide +kernel
theorem dX11_point_219 : decode cX11_point 219 = .ok (.aload_n 0, 1) := by decide +kernel
theorem dX11_point_220 : decode cX11_point 220 = .ok (.getfield 178, 3) := by decide +kernel
theorem dX11_point_223 : decode cX11_point 223 = .ok (.aload_n 0, 1) := by decide +kernel
theorem dX11_point_224 : decode cX11_point 224 = .ok (.getfield 175, 3) := by decide +kernel
theorem dX11_point_227 : decode cX11_point 227 = .ok (.imul, 1) := by decide +kernel
theorem dX11_point_228 : decode cX11_point 228 = .ok (.bipush 7, 2) := by decide +kernel
theorem dX11_point_230 : decode cX11_point 230 = .ok (.iadd, 1) := by decide +kernel
theorem dX11_point_231 : decode cX11_point 231 = .ok (.bipush 8, 2) := by decide +kernel
theorem dX11_point_233 : decode cX11_point 233 = .ok (.idiv, 1) := by decide +kernel
theorem dX11_point_234 : decode cX11_point 234 = .ok (.istore_n 2, 1) := by decide +kernel
theorem dX11_point_235 : decode cX11_point 235 = .ok (.aload_n 0, 1) := by decide +kernel
theorem dX11_point_236 : decode cX11_point 236 = .ok (.getfield 169, 3) := by decide +kernel
theorem dX11_point_239 : decode cX11_point 239 = .ok (.aload_n 0, 1) := by decide +kernel
theorem dX11_point_240 : decode cX11_point 240 = .ok (.getfield 172, 3) := by decide +kernel
theorem dX11_point_243 : decode cX11_point 243 = .ok (.iconst 1, 1) := by decide +kernel
theorem dX11_point_244 : decode cX11_point 244 = .ok (.isub, 1) := by decide +kernel
theorem dX11_point_245 : decode cX11_point 245 = .ok (.imul, 1) := by decide +kernel
theorem dX11_point_246 : decode cX11_point 246 = .ok (.istore_n 3, 1) := by decide +kernel
theorem dX11_point_247 : decode cX11_point 247 = .ok (.aload_n 0, 1) := by decide +kernel
theorem dX11_point_248 : decode cX11_point 248 = .ok (.getfield 147, 3) := by decide +kernel
theorem dX11_point_251 : decode cX11_point 251 = .ok (.iconst 0, 1) := by decide +kernel
theorem dX11_point_252 : decode cX11_point 252 = .ok (.iload_n 3, 1) := by decide +kernel
theorem dX11_point_253 : decode cX11_point 253 = .ok (.ifCond .ne 7, 3) := by decide +kernel
theorem dX11_point_256 : decode cX11_point 256 = .ok (.iconst 0, 1) := by decide +kernel
theorem dX11_point_257 : decode cX11_point 257 = .ok (.goto 15, 3) := by decide +kernel
theorem dX11_point_260 : decode cX11_point 260 = .ok (.aload_n 0, 1) := by decide +kernel
theorem dX11_point_261 : decode cX11_point 261 = .ok (.getfield 16, 3) := by decide +kernel
theorem dX11_point_264 : decode cX11_point 264 = .ok (.iload_n 2, 1) := by decide +kernel
theorem dX11_point_265 : decode cX11_point 265 = .ok (.baload, 1) := by decide +kernel
theorem dX11_point_266 : decode cX11_point 266 = .ok (.iconst 1, 1) := by decide +kernel
theorem dX11_point_267 : decode cX11_point 267 = .ok (.iload_n 3, 1) := by decide +kernel
theorem dX11_point_268 : decode cX11_point 268 = .ok (.ishl, 1) := by decide +kernel
theorem dX11_point_269 : decode cX11_point 269 = .ok (.iconst 1, 1) := by decide +kernel
theorem dX11_point_270 : decode cX11_point 270 = .ok (.isub, 1) := by decide +kernel
theorem dX11_point_271 : decode cX11_point 271 = .ok (.iand, 1) := by decide +kernel
theorem dX11_point_272 : decode cX11_point 272 = .ok (.iastore, 1) := by decide +kernel
theorem dX11_point_273 : decode cX11_point 273 = .ok (.iload_n 2, 1) := by decide +kernel
theorem dX11_point_274 : decode cX11_point 274 = .ok (.iload_n 3, 1) := by decide +kernel
theorem dX11_point_275 : decode cX11_point 275 = .ok (.ifCond .ne 7, 3) := by decide +kernel
theorem dX11_point_278 : decode cX11_point 278 = .ok (.iconst 0, 1) := by decide +kernel
theorem dX11_point_279 : decode cX11_point 279 = .ok (.goto 4, 3) := by decide +kernel
theorem dX11_point_282 : decode cX11_point 282 = .ok (.iconst 1, 1) := by decide +kernel
theorem dX11_point_283 : decode cX11_point 283 = .ok (.iadd, 1) := by decide +kernel
theorem dX11_point_284 : decode cX11_point 284 = .ok (.istore_n 2, 1) := by decide +kernel
theorem dX11_point_285 : decode cX11_point 285 = .ok (.aload_n 0, 1) := by decide +kernel
theorem dX11_point_286 : decode cX11_point 286 = .ok (.getfield 147, 3) := by decide +kernel
theorem dX11_point_289 : decode cX11_point 289 = .ok (.iconst 1, 1) := by decide +kernel
theorem dX11_point_290 : decode cX11_point 290 = .ok (.aload_n 0, 1) := by decide +kernel
theorem dX11_point_291 : decode cX11_point 291 = .ok (.getfield 16, 3) := by decide +kernel
theorem dX11_point_294 : decode cX11_point 294 = .ok (.iload_n 2, 1) := by decide +kernel
theorem dX11_point_295 : decode cX11_point 295 = .ok (.baload, 1) := by decide +kernel
theorem dX11_point_296 : decode cX11_point 296 = .ok (.iconst 1, 1) := by decide +kernel
theorem dX11_point_297 : decode cX11_point 297 = .ok (.aload_n 0, 1) := by decide +kernel
theorem dX11_point_298 : decode cX11_point 298 = .ok (.getfield 169, 3) := by decide +kernel
theorem dX11_point_301 : decode cX11_point 301 = .ok (.ishl, 1) := by decide +kernel
theorem dX11_point_302 : decode cX11_point 302 = .ok (.iconst 1, 1) := by decide +kernel
theorem dX11_point_303 : decode cX11_point 303 = .ok (.isub, 1) := by decide +kernel
theorem dX11_point_304 : decode cX11_point 304 = .ok (.iand, 1) := by decide +kernel
theorem dX11_point_305 : decode cX11_point 305 = .ok (.iastore, 1) := by decide +kernel
theorem dX11_point_306 : decode cX11_point 306 = .ok (.return_, 1) := by decide +kernel
set_option maxRecDepth 20000 in
theorem ggX11_one_X11_digits : GoodIn wsX11_one wsX11_digits := goodIn_r _ [10, 11, 3, 1, 107, 108, 109, 110, 111, 112, 113, 114, 115, 116, 117, 118, 119, 120, 121, 122, 123, 124, 125, 126, 127, 128, 129, 130, 131, 132, 133, 134, 135, 136, 137, 138, 139, 140, 141, 142, 143, 144, 145, 146, 147, 148, 149] rfl (by decide +kernel)
set_option maxRecDepth 20000 in
theorem gX11_one_X11_digits : GoodIn wsX11_one (wsV RX11 301 RX11 yX11_digits wsX11_digits) := goodIn_app (goodIn_of _ (by decide +kernel)) ggX11_one_X11_digits
set_option maxRecDepth 20000 in
theorem ggX11_one_X11_secret : GoodIn wsX11_one wsX11_secret := goodIn_r _ [15, 16, 17, 18, 9, 19, 20, 21, 22, 23, 24, 25, 26, 27, 11, 28, 29, 30, 31, 32, 33, 34, 35, 36, 37, 38, 39, 40, 41, 42, 43, 44, 45, 46, 47, 48, 49, 50, 51, 52, 53, 54, 55, 56, 57, 58, 59, 60, 61, 62, 63, 64, 65, 66, 67, 68, 69, 70, 71, 72, 73, 74, 75, 76, 77, 78, 79, 107, 108, 109, 110, 111, 112, 113, 114, 115, 116, 117, 118, 119, 120, 121, 122, 123, 124, 125, 126, 127, 128, 129, 130, 131, 132, 133, 134, 135, 136, 137, 138, 139, 140, 141, 142, 143, 144, 145, 146, 147, 148, 149] rfl (by decide +kernel)
set_option maxRecDepth 20000 in
theorem gX11_one_X11_secret : GoodIn wsX11_one (wsV RX11 274 RX11 yX11_secret wsX11_secret) := goodIn_app (goodIn_of _ (by decide +kernel)) ggX11_one_X11_secret
set_option maxRecDepth 20000 in
theorem ggX11_one_X11_chain : GoodIn wsX11_one wsX11_chain := goodIn_r _ [83, 11, 16, 17, 18, 9, 19, 20, 21, 22, 23, 24, 25, 26, 27, 28, 29, 30, 31, 32, 33, 34, 35, 36, 37, 84, 85, 86, 87, 38, 39, 40, 41, 42, 43, 44, 45, 46, 47, 48, 49, 50, 51, 52, 53, 54, 55, 56, 57, 58, 59, 60, 61, 62, 63, 64, 65, 66, 67, 68, 69, 70, 71, 72, 73, 74, 75, 76, 77, 78, 79, 107, 108, 109, 110, 111, 112, 113, 114, 115, 116, 117, 118, 119, 120, 121, 122, 123, 124, 125, 126, 127, 128, 129, 130, 131, 132, 133, 134, 135, 136, 137, 138, 139, 140, 141, 142, 143, 144, 145, 146, 147, 148, 149] rfl (by decide +kernel)
set_option maxRecDepth 20000 in
theorem gX11_one_X11_chain : GoodIn wsX11_one (wsV RX11 278 RX11 yX11_chain wsX11_chain) := goodIn_app (goodIn_of _ (by decide +kernel)) ggX11_one_X11_chain
set_option maxRecDepth 20000 in
theorem ggX11_one_X11_put : GoodIn wsX11_one wsX11_put := goodIn_r _ [91, 11, 92, 93, 107, 108, 109, 110, 111, 112, 113, 114, 115, 116, 117, 118, 119, 120, 121, 122, 123, 124, 125, 126, 127, 128, 129, 130, 131, 132, 133, 134, 135, 136, 137, 138, 139, 140, 141, 142, 143, 144, 145, 146, 147, 148, 149] rfl (by decide +kernel)
set_option maxRecDepth 20000 in
theorem gX11_one_X11_put : GoodIn wsX11_one (wsV RX11 304 RX11 yX11_put wsX11_put) := goodIn_app (goodIn_of _ (by decide +kernel)) ggX11_one_X11_put
set_option maxRecDepth 20000 in
theorem ggX11_one_X11_grow : GoodIn wsX11_one wsX11_grow := goodIn_r _ [97, 4, 5, 11, 98, 99, 100, 9, 101, 102, 103, 104, 105, 1, 106, 12, 13, 14, 15, 16, 17, 18, 19, 20, 21, 22, 23, 24, 25, 26, 27, 28, 29, 30, 31, 32, 33, 34, 35, 36, 37, 38, 39, 40, 41, 42, 43, 44, 45, 46, 47, 48, 49, 50, 51, 52, 53, 54, 55, 56, 57, 58, 59, 60, 61, 62, 63, 64, 65, 66, 67, 68, 69, 70, 71, 72, 73, 74, 75, 76, 77, 78, 79, 80, 81, 82, 83, 84, 85, 86, 87, 107, 108, 109, 110, 111, 112, 113, 114, 115, 116, 117, 118, 119, 120, 121, 122, 123, 124, 125, 126, 127, 128, 129, 130, 131, 132, 133, 134, 135, 136, 137, 138, 139, 140, 141, 142, 143, 144, 145, 146, 147, 148, 149] rfl (by decide +kernel)
set_option maxRecDepth 20000 in
theorem gX11_one_X11_grow : GoodIn wsX11_one (wsV RX11 289 RX11 yX11_grow wsX11_grow) := goodIn_app (goodIn_of _ (by decide +kernel)) ggX11_one_X11_grow
set_option maxRecDepth 20000 in
theorem ggX11_one_X11_nodeAt : GoodIn wsX11_one wsX11_nodeAt := goodIn_r _ [101, 4, 107, 108, 109, 110, 111, 112, 113, 114, 115, 116, 117, 118, 119, 120, 121, 122, 123, 124, 125, 126, 127, 128, 129, 130, 131, 132, 133, 134, 135, 136, 137, 138, 139, 140, 141, 142, 143, 144, 145, 146, 147, 148, 149] rfl (by decide +kernel)
set_option maxRecDepth 20000 in
theorem gX11_one_X11_nodeAt : GoodIn wsX11_one (wsV RX11 282 RX11 yX11_nodeAt wsX11_nodeAt) := goodIn_app (goodIn_of _ (by decide +kernel)) ggX11_one_X11_nodeAt
theorem dX11_one_0 : decode cX11_one 0 = .ok (.aload_n 0, 1) := by decide +kernel
theorem dX11_one_1 : decode cX11_one 1 = .ok (.aload_n 1, 1) := by decide +kernel
theorem dX11_one_2 : decode cX11_one 2 = .ok (.iload_n 2, 1) := by decide +kernel
theorem dX11_one_3 : decode cX11_one 3 = .ok (.invokevirtual 301, 3) := by decide +kernel
theorem dX11_one_6 : decode cX11_one 6 = .ok (.iconst 0, 1) := by decide +kernel
theorem dX11_one_7 : decode cX11_one 7 = .ok (.istore 4, 2) := by decide +kernel
theorem dX11_one_9 : decode cX11_one 9 = .ok (.iload 4, 2) := by decide +kernel
theorem dX11_one_11 : decode cX11_one 11 = .ok (.aload_n 0, 1) := by decide +kernel
theorem dX11_one_12 : decode cX11_one 12 = .ok (.getfield 238, 3) := by decide +kernel
theorem dX11_one_15 : decode cX11_one 15 = .ok (.if_icmp .ge 52, 3) := by decide +kernel
theorem dX11_one_18 : decode cX11_one 18 = .ok (.aload_n 0, 1) := by decide +kernel
theorem dX11_one_19 : decode cX11_one 19 = .ok (.iconst 5, 1) := by decide +kernel
theorem dX11_one_20 : decode cX11_one 20 = .ok (.iload_n 3, 1) := by decide +kernel
theorem dX11_one_21 : decode cX11_one 21 = .ok (.iload 4, 2) := by decide +kernel
theorem dX11_one_23 : decode cX11_one 23 = .ok (.iconst 0, 1) := by decide +kernel
theorem dX11_one_24 : decode cX11_one 24 = .ok (.aload_n 0, 1) := by decide +kernel
theorem dX11_one_25 : decode cX11_one 25 = .ok (.getfield 138, 3) := by decide +kernel
theorem dX11_one_28 : decode cX11_one 28 = .ok (.iconst 0, 1) := by decide +kernel
theorem dX11_one_29 : decode cX11_one 29 = .ok (.invokevirtual 274, 3) := by decide +kernel
theorem dX11_one_32 : decode cX11_one 32 = .ok (.aload_n 0, 1) := by decide +kernel
theorem dX11_one_33 : decode cX11_one 33 = .ok (.aload_n 0, 1) := by decide +kernel
theorem dX11_one_34 : decode cX11_one 34 = .ok (.getfield 138, 3) := by decide +kernel
theorem dX11_one_37 : decode cX11_one 37 = .ok (.iconst 0, 1) := by decide +kernel
theorem dX11_one_38 : decode cX11_one 38 = .ok (.iconst 0, 1) := by decide +kernel
theorem dX11_one_39 : decode cX11_one 39 = .ok (.aload_n 0, 1) := by decide +kernel
theorem dX11_one_40 : decode cX11_one 40 = .ok (.getfield 123, 3) := by decide +kernel
theorem dX11_one_43 : decode cX11_one 43 = .ok (.iload 4, 2) := by decide +kernel
theorem dX11_one_45 : decode cX11_one 45 = .ok (.iaload, 1) := by decide +kernel
theorem dX11_one_46 : decode cX11_one 46 = .ok (.iload_n 3, 1) := by decide +kernel
theorem dX11_one_47 : decode cX11_one 47 = .ok (.iload 4, 2) := by decide +kernel
theorem dX11_one_49 : decode cX11_one 49 = .ok (.invokevirtual 278, 3) := by decide +kernel
theorem dX11_one_52 : decode cX11_one 52 = .ok (.aload_n 0, 1) := by decide +kernel
theorem dX11_one_53 : decode cX11_one 53 = .ok (.aload_n 0, 1) := by decide +kernel
theorem dX11_one_54 : decode cX11_one 54 = .ok (.getfield 138, 3) := by decide +kernel
theorem dX11_one_57 : decode cX11_one 57 = .ok (.iconst 0, 1) := by decide +kernel
theorem dX11_one_58 : decode cX11_one 58 = .ok (.invokevirtual 304, 3) := by decide +kernel
theorem dX11_one_61 : decode cX11_one 61 = .ok (.iinc 4 1, 3) := by decide +kernel
theorem dX11_one_64 : decode cX11_one 64 = .ok (.goto (-55), 3) := by decide +kernel
theorem dX11_one_67 : decode cX11_one 67 = .ok (.aload_n 0, 1) := by decide +kernel
theorem dX11_one_68 : decode cX11_one 68 = .ok (.invokevirtual 289, 3) := by decide +kernel
theorem dX11_one_71 : decode cX11_one 71 = .ok (.iconst 0, 1) := by decide +kernel
theorem dX11_one_72 : decode cX11_one 72 = .ok (.istore 4, 2) := by decide +kernel
theorem dX11_one_74 : decode cX11_one 74 = .ok (.iload 4, 2) := by decide +kernel
theorem dX11_one_76 : decode cX11_one 76 = .ok (.aload_n 0, 1) := by decide +kernel
theorem dX11_one_77 : decode cX11_one 77 = .ok (.getfield 169, 3) := by decide +kernel
theorem dX11_one_80 : decode cX11_one 80 = .ok (.if_icmp .ge 29, 3) := by decide +kernel
theorem dX11_one_83 : decode cX11_one 83 = .ok (.aload_n 0, 1) := by decide +kernel
theorem dX11_one_84 : decode cX11_one 84 = .ok (.aload_n 0, 1) := by decide +kernel
theorem dX11_one_85 : decode cX11_one 85 = .ok (.getfield 129, 3) := by decide +kernel
theorem dX11_one_88 : decode cX11_one 88 = .ok (.aload_n 0, 1) := by decide +kernel
theorem dX11_one_89 : decode cX11_one 89 = .ok (.iload 4, 2) := by decide +kernel
theorem dX11_one_91 : decode cX11_one 91 = .ok (.iload_n 3, 1) := by decide +kernel
theorem dX11_one_92 : decode cX11_one 92 = .ok (.iload 4, 2) := by decide +kernel
theorem dX11_one_94 : decode cX11_one 94 = .ok (.ishr, 1) := by decide +kernel
theorem dX11_one_95 : decode cX11_one 95 = .ok (.iconst 1, 1) := by decide +kernel
theorem dX11_one_96 : decode cX11_one 96 = .ok (.ixor, 1) := by decide +kernel
theorem dX11_one_97 : decode cX11_one 97 = .ok (.invokevirtual 282, 3) := by decide +kernel
theorem dX11_one_100 : decode cX11_one 100 = .ok (.invokevirtual 304, 3) := by decide +kernel
theorem dX11_one_103 : decode cX11_one 103 = .ok (.iinc 4 1, 3) := by decide +kernel
theorem dX11_one_106 : decode cX11_one 106 = .ok (.goto (-32), 3) := by decide +kernel
theorem dX11_one_109 : decode cX11_one 109 = .ok (.return_, 1) := by decide +kernel
set_option maxHeartbeats 4000000 in
set_option maxRecDepth 100000 in
/-- the reference: mixRand -/
theorem c_mixRand (l : Launch) (g : jG) (h : Nat) (b : Nat → Nat) (v : Nat → Int32) (n0 : Nat) (f : Nat → Int32) (dg : Nat → Int32) (w0 : Nat → Int32) (S0 : Nat → Int32) (fs : Nat → Int32) (rt : Nat → Int32) (A0 : Nat → Int64) (T0 : Nat → Int64) (U0 : Nat → Int64) (tn : Nat → Int32) (sd : Nat → Int32) (tp : Nat → Int32) (ntp : Nat) (rd : Nat → Int32) (pf : Nat → Int32) (mx : Nat → Int32) (fm : Nat) (nn : Nat) (hfs : ∀ j, j < 8 → fs j = s_first.getD j 0) (hrt : ∀ j, j < 64 → rt j = s_cube.getD j 0) (htn : ∀ k, k < 25 → tn k = s_turns.getD k 0) (hv3 : v 3 = nI n0) (hn0 : n0 ≤ 1400) (hB : isB sd) (hv1 : v 1 = nI ntp) (hntp : ntp ≤ 600) (hTpB : isB tp) (hRdB : isB rd) (hPB : isB pf) (hMxB : isB mx) (hv15 : v 15 = nI fm) (hv16 : v 16 = nI nn) (hfm : fm < 2) (hnn : nn ≤ 16) : jC l g yX11_mixRand wsX11_mixRand ({ frames := 4, cells := 0, slots := 0, locals := 97 } : Room) [.ref h] [oB h 11 (mO b v), bA g (b 2) 1400 f, bA g (b 4) 32 dg, iA g (b 5) 64 w0, iA g (b 6) 8 S0, iA g (b 7) 8 fs, iA g (b 8) 64 rt, lA g (b 9) 25 A0, lA g (b 10) 25 T0, lA g (b 11) 5 U0, iA g (b 12) 25 tn, bA g (b 23) 48 sd, bA g (b 0) 600 tp, bA g (b 35) 16 rd, bA g (b 34) 32 pf, bA g (b 36) 16 mx] (fun jj : (Nat → Int32) × (Nat → Int32) × (Nat → Int64) × (Nat → Int64) × (Nat → Int64) × Nat × (Nat → Int32) × (Nat → Int32) × (Nat → Int32) × (Nat → Int32) => none) (fun jj : (Nat → Int32) × (Nat → Int32) × (Nat → Int64) × (Nat → Int64) × (Nat → Int64) × Nat × (Nat → Int32) × (Nat → Int32) × (Nat → Int32) × (Nat → Int32) => jj.2.2.2.2.2.1 ≤ 1400 ∧ isB jj.2.2.2.2.2.2.2.2.1 ∧ isB jj.2.2.2.2.2.2.2.2.2 ∧ jj.2.2.2.2.2.2.2.2.2 = putL mx 0 (MIXED fm nn sd (slice rd 0 nn) (slice tp 0 ntp))) (fun jj : (Nat → Int32) × (Nat → Int32) × (Nat → Int64) × (Nat → Int64) × (Nat → Int64) × Nat × (Nat → Int32) × (Nat → Int32) × (Nat → Int32) × (Nat → Int32) => [oB h 11 (mO b (upd v 3 (nI jj.2.2.2.2.2.1))), bA g (b 2) 1400 jj.2.2.2.2.2.2.1, bA g (b 4) 32 jj.2.2.2.2.2.2.2.1, iA g (b 5) 64 jj.1, iA g (b 6) 8 jj.2.1, iA g (b 7) 8 fs, iA g (b 8) 64 rt, lA g (b 9) 25 jj.2.2.1, lA g (b 10) 25 jj.2.2.2.1, lA g (b 11) 5 jj.2.2.2.2.1, iA g (b 12) 25 tn, bA g (b 23) 48 sd, bA g (b 0) 600 tp, bA g (b 35) 16 rd, bA g (b 34) 32 jj.2.2.2.2.2.2.2.2.1, bA g (b 36) 16 jj.2.2.2.2.2.2.2.2.2]) := by
  refine jC.of (cc := cX11_mixRand) (own := RX11) (maxL := 2) (ret := none) (by decide +kernel) rfl rfl (Nat.le_of_ble_eq_true rfl) (fun u hu => rfl) ?_
  intro p e s m below meth c A Q hX hret
  have in11 : ∀ w ∈ wsX110, w ∈ wsX11_mixRand := (fun w h => List.mem_cons_of_mem _ (List.mem_append_right _ h))
  refine j_w [oB h 11 (mO b (upd v 3 (nI n0))), bA g (b 2) 1400 f, bA g (b 4) 32 dg, iA g (b 5) 64 w0, iA g (b 6) 8 S0, iA g (b 7) 8 fs, iA g (b 8) 64 rt, lA g (b 9) 25 A0, lA g (b 10) 25 T0, lA g (b 11) 5 U0, iA g (b 12) 25 tn, bA g (b 23) 48 sd, bA g (b 0) 600 tp, bA g (b 35) 16 rd, bA g (b 34) 32 pf, bA g (b 36) 16 mx] (by rw [updS (hv3 : (v : Nat → Int32) 3 = nI n0)]) ?_
  refine j_aload_n hX 0 dX11_mixRand_0 rfl ?_
  refine j_iconst hX (0) dX11_mixRand_1 (by decide) ?_
  refine j_st [.int (nI 0), .ref h] rfl ?_
  refine j_put hX (v := .int (nI 0)) (ty := .int) in11 tyX11 tyX11_ok nmX11 11 0 3 rfl rfl (by decide) (List.mem_of_getElem? (i := 1) rfl) rfl rfl rfl rfl rfl (Nat.le_of_ble_eq_true rfl) [oB h 11 (mO b (upd v 3 (nI 0))), bA g (b 2) 1400 f, bA g (b 4) 32 dg, iA g (b 5) 64 w0, iA g (b 6) 8 S0, iA g (b 7) 8 fs, iA g (b 8) 64 rt, lA g (b 9) 25 A0, lA g (b 10) 25 T0, lA g (b 11) 5 U0, iA g (b 12) 25 tn, bA g (b 23) 48 sd, bA g (b 0) 600 tp, bA g (b 35) 16 rd, bA g (b 34) 32 pf, bA g (b 36) 16 mx] rfl dX11_mixRand_2 ?_
  by_cases h0 : fm = 0
  · skip
    refine j_aload_n hX 0 dX11_mixRand_5 rfl ?_
    refine j_gete hX (nI fm) in11 11 0 15 rfl rfl (by decide) (List.mem_of_getElem? (i := 2) rfl) rfl rfl hv15 dX11_mixRand_6 ?_
    refine j_if_neN hX fm 21 dX11_mixRand_9 (by decide) (by omega) (fun b_9 => absurd b_9 (by omega)) (fun b_9 => ?_)
    refine j_aload_n hX 0 dX11_mixRand_12 rfl ?_
    refine j_pc 13 rfl ?_
    refine j_bipush hX (54) dX11_mixRand_13 (by decide) ?_
    refine j_callV2 hX 1 (c_layPadded l g h b (upd v 3 (nI 0)) 0 f sd nn 54 rfl hv16 (by omega) (by omega)) gX11_mixRand_X11_layPadded (by decide +kernel) rfl ⟨rfl, rfl⟩ ⟨Nat.le_of_ble_eq_true rfl, Nat.le_of_ble_eq_true rfl⟩ 11 0 rfl rfl [0, 1, 11] [2, 3, 4, 5, 6, 7, 8, 9, 10, 12, 13, 14, 15] 16 rfl (by decide) (fun jj : (Nat → Int32) => [oB h 11 (mO b (upd v 3 (nI (0 + 64)))), bA g (b 2) 1400 jj, bA g (b 4) 32 dg, iA g (b 5) 64 w0, iA g (b 6) 8 S0, iA g (b 7) 8 fs, iA g (b 8) 64 rt, lA g (b 9) 25 A0, lA g (b 10) 25 T0, lA g (b 11) 5 U0, iA g (b 12) 25 tn, bA g (b 23) 48 sd, bA g (b 0) 600 tp, bA g (b 35) 16 rd, bA g (b 34) 32 pf, bA g (b 36) 16 mx]) (fun _ => rfl) (by decide) [h, (b 2), (b 4), (b 5), (b 6), (b 7), (b 8), (b 9), (b 10), (b 11), (b 12), (b 23), (b 0), (b 35), (b 34), (b 36)] rfl (fun _ => rfl) (fun _ => rfl) [bA g (b 4) 32 dg, iA g (b 5) 64 w0, iA g (b 6) 8 S0, iA g (b 7) 8 fs, iA g (b 8) 64 rt, lA g (b 9) 25 A0, lA g (b 10) 25 T0, lA g (b 11) 5 U0, iA g (b 12) 25 tn, bA g (b 0) 600 tp, bA g (b 35) 16 rd, bA g (b 34) 32 pf, bA g (b 36) 16 mx] rfl (fun _ => rfl) rfl [] rfl (Nat.le_of_ble_eq_true rfl) ⟨Nat.le_refl _, Nat.le_refl _⟩ dX11_mixRand_15 ?_
    intro F1 hF1
    try dsimp only at hF1
    refine j_w [oB h 11 (mO b (upd v 3 (nI (0 + 64)))), bA g (b 2) 1400 F1, bA g (b 4) 32 dg, iA g (b 5) 64 w0, iA g (b 6) 8 S0, iA g (b 7) 8 fs, iA g (b 8) 64 rt, lA g (b 9) 25 A0, lA g (b 10) 25 T0, lA g (b 11) 5 U0, iA g (b 12) 25 tn, bA g (b 23) 48 sd, bA g (b 0) 600 tp, bA g (b 35) 16 rd, bA g (b 34) 32 pf, bA g (b 36) 16 mx] rfl ?_
    refine j_st [] rfl ?_
    refine j_goto hX 26 dX11_mixRand_18 (by decide) ?_
    refine j_aload_n hX 0 dX11_mixRand_26 rfl ?_
    refine j_aload_n hX 0 dX11_mixRand_27 rfl ?_
    refine j_get hX in11 11 0 35 (v := .ref (b 35)) rfl rfl (by decide) (List.mem_of_getElem? (i := 3) rfl) rfl rfl dX11_mixRand_28 ?_
    refine j_iconst hX (0) dX11_mixRand_31 (by decide) ?_
    refine j_aload_n hX 0 dX11_mixRand_32 rfl ?_
    refine j_pc 33 rfl ?_
    refine j_gete hX (nI nn) in11 11 0 16 rfl rfl (by decide) (List.mem_of_getElem? (i := 4) rfl) rfl rfl hv16 dX11_mixRand_33 ?_
    refine j_callV2 hX 3 (c_layRow l g h b (upd v 3 (nI (0 + 64))) (0 + 64) F1 (b 35) 16 rd 0 nn rfl (by omega) (by omega) (by omega) hRdB) gX11_mixRand_X11_layRow (by decide +kernel) rfl ⟨rfl, rfl⟩ ⟨Nat.le_of_ble_eq_true rfl, Nat.le_of_ble_eq_true rfl⟩ 11 0 rfl rfl [0, 1, 13] [2, 3, 4, 5, 6, 7, 8, 9, 10, 11, 12, 14, 15] 16 rfl (by decide) (fun jj : (Nat → Int32) => [oB h 11 (mO b (upd v 3 (nI ((0 + 64) + nn)))), bA g (b 2) 1400 jj, bA g (b 4) 32 dg, iA g (b 5) 64 w0, iA g (b 6) 8 S0, iA g (b 7) 8 fs, iA g (b 8) 64 rt, lA g (b 9) 25 A0, lA g (b 10) 25 T0, lA g (b 11) 5 U0, iA g (b 12) 25 tn, bA g (b 23) 48 sd, bA g (b 0) 600 tp, bA g (b 35) 16 rd, bA g (b 34) 32 pf, bA g (b 36) 16 mx]) (fun _ => rfl) (by decide) [h, (b 2), (b 4), (b 5), (b 6), (b 7), (b 8), (b 9), (b 10), (b 11), (b 12), (b 23), (b 0), (b 35), (b 34), (b 36)] rfl (fun _ => rfl) (fun _ => rfl) [bA g (b 4) 32 dg, iA g (b 5) 64 w0, iA g (b 6) 8 S0, iA g (b 7) 8 fs, iA g (b 8) 64 rt, lA g (b 9) 25 A0, lA g (b 10) 25 T0, lA g (b 11) 5 U0, iA g (b 12) 25 tn, bA g (b 23) 48 sd, bA g (b 0) 600 tp, bA g (b 34) 32 pf, bA g (b 36) 16 mx] rfl (fun _ => rfl) rfl [] rfl (Nat.le_of_ble_eq_true rfl) ⟨Nat.le_refl _, Nat.le_refl _⟩ dX11_mixRand_36 ?_
    intro F2 hF2
    try dsimp only at hF2
    refine j_w [oB h 11 (mO b (upd v 3 (nI ((0 + 64) + nn)))), bA g (b 2) 1400 F2, bA g (b 4) 32 dg, iA g (b 5) 64 w0, iA g (b 6) 8 S0, iA g (b 7) 8 fs, iA g (b 8) 64 rt, lA g (b 9) 25 A0, lA g (b 10) 25 T0, lA g (b 11) 5 U0, iA g (b 12) 25 tn, bA g (b 23) 48 sd, bA g (b 0) 600 tp, bA g (b 35) 16 rd, bA g (b 34) 32 pf, bA g (b 36) 16 mx] rfl ?_
    refine j_st [] rfl ?_
    refine j_aload_n hX 0 dX11_mixRand_39 rfl ?_
    refine j_callV2 hX 0 (c_layTape l g h b (upd v 3 (nI ((0 + 64) + nn))) ((0 + 64) + nn) F2 tp ntp rfl hv1 (by omega) (by omega) hTpB) gX11_mixRand_X11_layTape (by decide +kernel) rfl ⟨rfl, rfl⟩ ⟨Nat.le_of_ble_eq_true rfl, Nat.le_of_ble_eq_true rfl⟩ 11 0 rfl rfl [0, 1, 12] [2, 3, 4, 5, 6, 7, 8, 9, 10, 11, 13, 14, 15] 16 rfl (by decide) (fun jj : (Nat → Int32) => [oB h 11 (mO b (upd v 3 (nI (((0 + 64) + nn) + ntp)))), bA g (b 2) 1400 jj, bA g (b 4) 32 dg, iA g (b 5) 64 w0, iA g (b 6) 8 S0, iA g (b 7) 8 fs, iA g (b 8) 64 rt, lA g (b 9) 25 A0, lA g (b 10) 25 T0, lA g (b 11) 5 U0, iA g (b 12) 25 tn, bA g (b 23) 48 sd, bA g (b 0) 600 tp, bA g (b 35) 16 rd, bA g (b 34) 32 pf, bA g (b 36) 16 mx]) (fun _ => rfl) (by decide) [h, (b 2), (b 4), (b 5), (b 6), (b 7), (b 8), (b 9), (b 10), (b 11), (b 12), (b 23), (b 0), (b 35), (b 34), (b 36)] rfl (fun _ => rfl) (fun _ => rfl) [bA g (b 4) 32 dg, iA g (b 5) 64 w0, iA g (b 6) 8 S0, iA g (b 7) 8 fs, iA g (b 8) 64 rt, lA g (b 9) 25 A0, lA g (b 10) 25 T0, lA g (b 11) 5 U0, iA g (b 12) 25 tn, bA g (b 23) 48 sd, bA g (b 35) 16 rd, bA g (b 34) 32 pf, bA g (b 36) 16 mx] rfl (fun _ => rfl) rfl [] rfl (Nat.le_of_ble_eq_true rfl) ⟨Nat.le_refl _, Nat.le_refl _⟩ dX11_mixRand_40 ?_
    intro F3 hF3
    try dsimp only at hF3
    refine j_w [oB h 11 (mO b (upd v 3 (nI (((0 + 64) + nn) + ntp)))), bA g (b 2) 1400 F3, bA g (b 4) 32 dg, iA g (b 5) 64 w0, iA g (b 6) 8 S0, iA g (b 7) 8 fs, iA g (b 8) 64 rt, lA g (b 9) 25 A0, lA g (b 10) 25 T0, lA g (b 11) 5 U0, iA g (b 12) 25 tn, bA g (b 23) 48 sd, bA g (b 0) 600 tp, bA g (b 35) 16 rd, bA g (b 34) 32 pf, bA g (b 36) 16 mx] rfl ?_
    refine j_st [] rfl ?_
    refine j_aload_n hX 0 dX11_mixRand_43 rfl ?_
    refine j_aload_n hX 0 dX11_mixRand_44 rfl ?_
    refine j_gete hX (nI fm) in11 11 0 15 rfl rfl (by decide) (List.mem_of_getElem? (i := 2) rfl) rfl rfl hv15 dX11_mixRand_45 ?_
    refine j_callV2 hX 1 (c_hashLaid l g h b (upd v 3 (nI (((0 + 64) + nn) + ntp))) (((0 + 64) + nn) + ntp) F3 dg w0 S0 fs rt A0 T0 U0 tn fm rfl (by omega) hfs hrt htn (by omega)) gX11_mixRand_X11_hashLaid (by decide +kernel) rfl ⟨rfl, rfl⟩ ⟨Nat.le_of_ble_eq_true rfl, Nat.le_of_ble_eq_true rfl⟩ 11 0 rfl rfl [0, 1, 2, 3, 4, 5, 6, 7, 8, 9, 10] [11, 12, 13, 14, 15] 16 rfl (by decide) (fun jj : (Nat → Int32) × (Nat → Int32) × (Nat → Int64) × (Nat → Int64) × (Nat → Int64) × Nat × (Nat → Int32) × (Nat → Int32) => [oB h 11 (mO b (upd v 3 (nI jj.2.2.2.2.2.1))), bA g (b 2) 1400 jj.2.2.2.2.2.2.1, bA g (b 4) 32 jj.2.2.2.2.2.2.2, iA g (b 5) 64 jj.1, iA g (b 6) 8 jj.2.1, iA g (b 7) 8 fs, iA g (b 8) 64 rt, lA g (b 9) 25 jj.2.2.1, lA g (b 10) 25 jj.2.2.2.1, lA g (b 11) 5 jj.2.2.2.2.1, iA g (b 12) 25 tn, bA g (b 23) 48 sd, bA g (b 0) 600 tp, bA g (b 35) 16 rd, bA g (b 34) 32 pf, bA g (b 36) 16 mx]) (fun _ => rfl) (by decide) [h, (b 2), (b 4), (b 5), (b 6), (b 7), (b 8), (b 9), (b 10), (b 11), (b 12), (b 23), (b 0), (b 35), (b 34), (b 36)] rfl (fun _ => rfl) (fun _ => rfl) [bA g (b 23) 48 sd, bA g (b 0) 600 tp, bA g (b 35) 16 rd, bA g (b 34) 32 pf, bA g (b 36) 16 mx] rfl (fun _ => rfl) rfl [] rfl (Nat.le_of_ble_eq_true rfl) ⟨Nat.le_refl _, Nat.le_refl _⟩ dX11_mixRand_48 ?_
    rintro ⟨w5, S5, A5, T5, U5, nl5, G5, FO5⟩ hW
    try dsimp only at hW
    refine j_w [oB h 11 (mO b (upd v 3 (nI nl5))), bA g (b 2) 1400 G5, bA g (b 4) 32 FO5, iA g (b 5) 64 w5, iA g (b 6) 8 S5, iA g (b 7) 8 fs, iA g (b 8) 64 rt, lA g (b 9) 25 A5, lA g (b 10) 25 T5, lA g (b 11) 5 U5, iA g (b 12) 25 tn, bA g (b 23) 48 sd, bA g (b 0) 600 tp, bA g (b 35) 16 rd, bA g (b 34) 32 pf, bA g (b 36) 16 mx] rfl ?_
    refine j_st [] rfl ?_
    rw [hF3, hF2, hF1, putL_app' (by first | (simp only [List.length_append, mskL_length, slice_length, HASH0_length, Zl_length]; omega) | simp only [List.length_append, mskL_length, slice_length, HASH0_length, Zl_length]), putL_app' (by first | (simp only [List.length_append, mskL_length, slice_length, HASH0_length, Zl_length]; omega) | simp only [List.length_append, mskL_length, slice_length, HASH0_length, Zl_length]), slice_put (by first | (simp only [List.length_append, mskL_length, slice_length, HASH0_length, Zl_length]; omega) | simp only [List.length_append, mskL_length, slice_length, HASH0_length, Zl_length])] at hW
    refine j_pc 51 rfl ?_
    refine j_aload_n hX 0 dX11_mixRand_51 rfl ?_
    refine j_gete hX (nI fm) in11 11 0 15 rfl rfl (by decide) (List.mem_of_getElem? (i := 2) rfl) rfl rfl hv15 dX11_mixRand_52 ?_
    refine j_if_neN hX fm 111 dX11_mixRand_55 (by decide) (by omega) (fun b_55 => absurd b_55 (by omega)) (fun b_55 => ?_)
    refine j_iconst hX (0) dX11_mixRand_58 (by decide) ?_
    refine j_st [.int (nI 0)] rfl ?_
    refine j_istore_n hX 1 [(1, .int (nI 0)), (0, .ref h)] dX11_mixRand_59 rfl (by decide) rfl ?_
    have lp_1 : ∀ (n_2 : Nat) (i : Nat) (P1 : Nat → Int32), (32 - i < n_2) → (i ≤ 32) → (P1 = putL pf 0 ((HH fm (mskL sd nn 54 64 ++ ((slice rd 0 nn) ++ (slice tp 0 ntp)))).take i)) → J p l e ({ frames := 4, cells := 0, slots := 0, locals := 97 } : Room) s m ([.ref h] : List Value).toArray below meth c g A 2 Q 0 0 [oB h 11 (mO b (upd v 3 (nI nl5))), bA g (b 2) 1400 G5, bA g (b 4) 32 FO5, iA g (b 5) 64 w5, iA g (b 6) 8 S5, iA g (b 7) 8 fs, iA g (b 8) 64 rt, lA g (b 9) 25 A5, lA g (b 10) 25 T5, lA g (b 11) 5 U5, iA g (b 12) 25 tn, bA g (b 23) 48 sd, bA g (b 0) 600 tp, bA g (b 35) 16 rd, bA g (b 34) 32 P1, bA g (b 36) 16 mx] [(0, .ref h), (1, .int (nI i))] 60 [] := by
      intro n_2
      induction n_2 with
      | zero => intro i P1 hm; exact absurd hm (Nat.not_lt_zero _)
      | succ n_2 ih_3 =>
        intro i P1 hm hi hO
        refine j_iload_n hX 1 dX11_mixRand_60 rfl ?_
        refine j_bipush hX (32) dX11_mixRand_61 (by decide) ?_
        refine j_icmp_geN hX i 32 84 dX11_mixRand_63 (by decide) (by omega) (by omega) (fun b_63 => ?_) (fun b_63 => ?_)
        · skip
          have hO9 : P1 = putL pf 0 (HASH0 (mskL sd nn 54 64 ++ ((slice rd 0 nn) ++ (slice tp 0 ntp)))) := by rw [hO, show i = 32 by omega, List.take_of_length_le (by rw [HH_length]; omega), HH, if_pos h0]
          have hPF : isB P1 := by rw [hO9]; exact putL_B hPB (HASH0_B _)
          refine j_pc 84 rfl ?_
          refine j_aload_n hX 0 dX11_mixRand_84 rfl ?_
          refine j_iconst hX (0) dX11_mixRand_85 (by decide) ?_
          refine j_st [.int (nI 0), .ref h] rfl ?_
          refine j_put hX (v := .int (nI 0)) (ty := .int) in11 tyX11 tyX11_ok nmX11 11 0 3 rfl rfl (by decide) (List.mem_of_getElem? (i := 1) rfl) rfl rfl rfl rfl rfl (Nat.le_of_ble_eq_true rfl) [oB h 11 (mO b (upd v 3 (nI 0))), bA g (b 2) 1400 G5, bA g (b 4) 32 FO5, iA g (b 5) 64 w5, iA g (b 6) 8 S5, iA g (b 7) 8 fs, iA g (b 8) 64 rt, lA g (b 9) 25 A5, lA g (b 10) 25 T5, lA g (b 11) 5 U5, iA g (b 12) 25 tn, bA g (b 23) 48 sd, bA g (b 0) 600 tp, bA g (b 35) 16 rd, bA g (b 34) 32 P1, bA g (b 36) 16 mx] rfl dX11_mixRand_86 ?_
          refine j_aload_n hX 0 dX11_mixRand_89 rfl ?_
          refine j_bipush hX (92) dX11_mixRand_90 (by decide) ?_
          refine j_callV2 hX 1 (c_layPadded l g h b (upd v 3 (nI 0)) 0 G5 sd nn 92 rfl hv16 (by omega) (by omega)) gX11_mixRand_X11_layPadded (by decide +kernel) rfl ⟨rfl, rfl⟩ ⟨Nat.le_of_ble_eq_true rfl, Nat.le_of_ble_eq_true rfl⟩ 11 0 rfl rfl [0, 1, 11] [2, 3, 4, 5, 6, 7, 8, 9, 10, 12, 13, 14, 15] 16 rfl (by decide) (fun jj : (Nat → Int32) => [oB h 11 (mO b (upd v 3 (nI (0 + 64)))), bA g (b 2) 1400 jj, bA g (b 4) 32 FO5, iA g (b 5) 64 w5, iA g (b 6) 8 S5, iA g (b 7) 8 fs, iA g (b 8) 64 rt, lA g (b 9) 25 A5, lA g (b 10) 25 T5, lA g (b 11) 5 U5, iA g (b 12) 25 tn, bA g (b 23) 48 sd, bA g (b 0) 600 tp, bA g (b 35) 16 rd, bA g (b 34) 32 P1, bA g (b 36) 16 mx]) (fun _ => rfl) (by decide) [h, (b 2), (b 4), (b 5), (b 6), (b 7), (b 8), (b 9), (b 10), (b 11), (b 12), (b 23), (b 0), (b 35), (b 34), (b 36)] rfl (fun _ => rfl) (fun _ => rfl) [bA g (b 4) 32 FO5, iA g (b 5) 64 w5, iA g (b 6) 8 S5, iA g (b 7) 8 fs, iA g (b 8) 64 rt, lA g (b 9) 25 A5, lA g (b 10) 25 T5, lA g (b 11) 5 U5, iA g (b 12) 25 tn, bA g (b 0) 600 tp, bA g (b 35) 16 rd, bA g (b 34) 32 P1, bA g (b 36) 16 mx] rfl (fun _ => rfl) rfl [] rfl (Nat.le_of_ble_eq_true rfl) ⟨Nat.le_refl _, Nat.le_refl _⟩ dX11_mixRand_92 ?_
          intro F5 hF5
          try dsimp only at hF5
          refine j_w [oB h 11 (mO b (upd v 3 (nI (0 + 64)))), bA g (b 2) 1400 F5, bA g (b 4) 32 FO5, iA g (b 5) 64 w5, iA g (b 6) 8 S5, iA g (b 7) 8 fs, iA g (b 8) 64 rt, lA g (b 9) 25 A5, lA g (b 10) 25 T5, lA g (b 11) 5 U5, iA g (b 12) 25 tn, bA g (b 23) 48 sd, bA g (b 0) 600 tp, bA g (b 35) 16 rd, bA g (b 34) 32 P1, bA g (b 36) 16 mx] rfl ?_
          refine j_st [] rfl ?_
          refine j_aload_n hX 0 dX11_mixRand_95 rfl ?_
          refine j_aload_n hX 0 dX11_mixRand_96 rfl ?_
          refine j_pc 97 rfl ?_
          refine j_get hX in11 11 0 34 (v := .ref (b 34)) rfl rfl (by decide) (List.mem_of_getElem? (i := 5) rfl) rfl rfl dX11_mixRand_97 ?_
          refine j_iconst hX (0) dX11_mixRand_100 (by decide) ?_
          refine j_bipush hX (32) dX11_mixRand_101 (by decide) ?_
          refine j_callV2 hX 3 (c_layRow l g h b (upd v 3 (nI (0 + 64))) (0 + 64) F5 (b 34) 32 P1 0 32 rfl (by omega) (by omega) (by omega) hPF) gX11_mixRand_X11_layRow (by decide +kernel) rfl ⟨rfl, rfl⟩ ⟨Nat.le_of_ble_eq_true rfl, Nat.le_of_ble_eq_true rfl⟩ 11 0 rfl rfl [0, 1, 14] [2, 3, 4, 5, 6, 7, 8, 9, 10, 11, 12, 13, 15] 16 rfl (by decide) (fun jj : (Nat → Int32) => [oB h 11 (mO b (upd v 3 (nI ((0 + 64) + 32)))), bA g (b 2) 1400 jj, bA g (b 4) 32 FO5, iA g (b 5) 64 w5, iA g (b 6) 8 S5, iA g (b 7) 8 fs, iA g (b 8) 64 rt, lA g (b 9) 25 A5, lA g (b 10) 25 T5, lA g (b 11) 5 U5, iA g (b 12) 25 tn, bA g (b 23) 48 sd, bA g (b 0) 600 tp, bA g (b 35) 16 rd, bA g (b 34) 32 P1, bA g (b 36) 16 mx]) (fun _ => rfl) (by decide) [h, (b 2), (b 4), (b 5), (b 6), (b 7), (b 8), (b 9), (b 10), (b 11), (b 12), (b 23), (b 0), (b 35), (b 34), (b 36)] rfl (fun _ => rfl) (fun _ => rfl) [bA g (b 4) 32 FO5, iA g (b 5) 64 w5, iA g (b 6) 8 S5, iA g (b 7) 8 fs, iA g (b 8) 64 rt, lA g (b 9) 25 A5, lA g (b 10) 25 T5, lA g (b 11) 5 U5, iA g (b 12) 25 tn, bA g (b 23) 48 sd, bA g (b 0) 600 tp, bA g (b 35) 16 rd, bA g (b 36) 16 mx] rfl (fun _ => rfl) rfl [] rfl (Nat.le_of_ble_eq_true rfl) ⟨Nat.le_refl _, Nat.le_refl _⟩ dX11_mixRand_103 ?_
          intro F6 hF6
          try dsimp only at hF6
          refine j_w [oB h 11 (mO b (upd v 3 (nI ((0 + 64) + 32)))), bA g (b 2) 1400 F6, bA g (b 4) 32 FO5, iA g (b 5) 64 w5, iA g (b 6) 8 S5, iA g (b 7) 8 fs, iA g (b 8) 64 rt, lA g (b 9) 25 A5, lA g (b 10) 25 T5, lA g (b 11) 5 U5, iA g (b 12) 25 tn, bA g (b 23) 48 sd, bA g (b 0) 600 tp, bA g (b 35) 16 rd, bA g (b 34) 32 P1, bA g (b 36) 16 mx] rfl ?_
          refine j_st [] rfl ?_
          refine j_aload_n hX 0 dX11_mixRand_106 rfl ?_
          refine j_iconst hX (0) dX11_mixRand_107 (by decide) ?_
          refine j_callV2 hX 1 (c_hashLaid l g h b (upd v 3 (nI ((0 + 64) + 32))) ((0 + 64) + 32) F6 FO5 w5 S5 fs rt A5 T5 U5 tn 0 rfl (by omega) hfs hrt htn (by omega)) gX11_mixRand_X11_hashLaid (by decide +kernel) rfl ⟨rfl, rfl⟩ ⟨Nat.le_of_ble_eq_true rfl, Nat.le_of_ble_eq_true rfl⟩ 11 0 rfl rfl [0, 1, 2, 3, 4, 5, 6, 7, 8, 9, 10] [11, 12, 13, 14, 15] 16 rfl (by decide) (fun jj : (Nat → Int32) × (Nat → Int32) × (Nat → Int64) × (Nat → Int64) × (Nat → Int64) × Nat × (Nat → Int32) × (Nat → Int32) => [oB h 11 (mO b (upd v 3 (nI jj.2.2.2.2.2.1))), bA g (b 2) 1400 jj.2.2.2.2.2.2.1, bA g (b 4) 32 jj.2.2.2.2.2.2.2, iA g (b 5) 64 jj.1, iA g (b 6) 8 jj.2.1, iA g (b 7) 8 fs, iA g (b 8) 64 rt, lA g (b 9) 25 jj.2.2.1, lA g (b 10) 25 jj.2.2.2.1, lA g (b 11) 5 jj.2.2.2.2.1, iA g (b 12) 25 tn, bA g (b 23) 48 sd, bA g (b 0) 600 tp, bA g (b 35) 16 rd, bA g (b 34) 32 P1, bA g (b 36) 16 mx]) (fun _ => rfl) (by decide) [h, (b 2), (b 4), (b 5), (b 6), (b 7), (b 8), (b 9), (b 10), (b 11), (b 12), (b 23), (b 0), (b 35), (b 34), (b 36)] rfl (fun _ => rfl) (fun _ => rfl) [bA g (b 23) 48 sd, bA g (b 0) 600 tp, bA g (b 35) 16 rd, bA g (b 34) 32 P1, bA g (b 36) 16 mx] rfl (fun _ => rfl) rfl [] rfl (Nat.le_of_ble_eq_true rfl) ⟨Nat.le_refl _, Nat.le_refl _⟩ dX11_mixRand_108 ?_
          rintro ⟨w6, S6, A6, T6, U6, nl6, G6, FO6⟩ hV
          try dsimp only at hV
          refine j_w [oB h 11 (mO b (upd v 3 (nI nl6))), bA g (b 2) 1400 G6, bA g (b 4) 32 FO6, iA g (b 5) 64 w6, iA g (b 6) 8 S6, iA g (b 7) 8 fs, iA g (b 8) 64 rt, lA g (b 9) 25 A6, lA g (b 10) 25 T6, lA g (b 11) 5 U6, iA g (b 12) 25 tn, bA g (b 23) 48 sd, bA g (b 0) 600 tp, bA g (b 35) 16 rd, bA g (b 34) 32 P1, bA g (b 36) 16 mx] rfl ?_
          refine j_st [] rfl ?_
          rw [hF6, hF5, hO9, slice_put (by rw [HASH0_length]), putL_app' (by first | (simp only [List.length_append, mskL_length, slice_length, HASH0_length, Zl_length]; omega) | simp only [List.length_append, mskL_length, slice_length, HASH0_length, Zl_length]), slice_put (by first | (simp only [List.length_append, mskL_length, slice_length, HASH0_length, Zl_length]; omega) | simp only [List.length_append, mskL_length, slice_length, HASH0_length, Zl_length])] at hV
          refine j_iconst hX (0) dX11_mixRand_111 (by decide) ?_
          refine j_pc 112 rfl ?_
          refine j_st [.int (nI 0)] rfl ?_
          refine j_istore_n hX 1 [(1, .int (nI 0)), (0, .ref h)] dX11_mixRand_112 rfl (by decide) rfl ?_
          have lp_4 : ∀ (n_5 : Nat) (i : Nat) (M1 : Nat → Int32), (nn - i < n_5) → (i ≤ nn) → (M1 = putL mx 0 ((HH 0 (mskL sd nn 92 64 ++ HASH0 (mskL sd nn 54 64 ++ (slice rd 0 nn ++ slice tp 0 ntp)))).take i)) → J p l e ({ frames := 4, cells := 0, slots := 0, locals := 97 } : Room) s m ([.ref h] : List Value).toArray below meth c g A 2 Q 0 0 [oB h 11 (mO b (upd v 3 (nI nl6))), bA g (b 2) 1400 G6, bA g (b 4) 32 FO6, iA g (b 5) 64 w6, iA g (b 6) 8 S6, iA g (b 7) 8 fs, iA g (b 8) 64 rt, lA g (b 9) 25 A6, lA g (b 10) 25 T6, lA g (b 11) 5 U6, iA g (b 12) 25 tn, bA g (b 23) 48 sd, bA g (b 0) 600 tp, bA g (b 35) 16 rd, bA g (b 34) 32 P1, bA g (b 36) 16 M1] [(0, .ref h), (1, .int (nI i))] 113 [] := by
            intro n_5
            induction n_5 with
            | zero => intro i M1 hm; exact absurd hm (Nat.not_lt_zero _)
            | succ n_5 ih_6 =>
              intro i M1 hm hi hO
              refine j_iload_n hX 1 dX11_mixRand_113 rfl ?_
              refine j_aload_n hX 0 dX11_mixRand_114 rfl ?_
              refine j_gete hX (nI nn) in11 11 0 16 rfl rfl (by decide) (List.mem_of_getElem? (i := 4) rfl) rfl rfl hv16 dX11_mixRand_115 ?_
              refine j_icmp_geN hX i nn 139 dX11_mixRand_118 (by decide) (by omega) (by omega) (fun b_118 => ?_) (fun b_118 => ?_)
              · skip
                exact hret (w6, S6, A6, T6, U6, nl6, G6, FO6, P1, M1) (by dsimp only; exact ⟨hV.1, hPF, by rw [hO]; exact putL_B hMxB (isBL_take (HH_B _ _) _), by rw [hO, show i = nn by omega, MIXED, if_pos h0, HH, if_pos rfl]⟩) 139 _ .return_ dX11_mixRand_139 rfl
              · skip
                refine j_aload_n hX 0 dX11_mixRand_121 rfl ?_
                refine j_get hX in11 11 0 36 (v := .ref (b 36)) rfl rfl (by decide) (List.mem_of_getElem? (i := 7) rfl) rfl rfl dX11_mixRand_122 ?_
                refine j_pc 125 rfl ?_
                refine j_iload_n hX 1 dX11_mixRand_125 rfl ?_
                refine j_aload_n hX 0 dX11_mixRand_126 rfl ?_
                refine j_get hX in11 11 0 4 (v := .ref (b 4)) rfl rfl (by decide) (List.mem_of_getElem? (i := 6) rfl) rfl rfl dX11_mixRand_127 ?_
                refine j_iload_n hX 1 dX11_mixRand_130 rfl ?_
                refine j_baldN hX 2 i rfl (by omega) (by omega) dX11_mixRand_131 ?_
                refine j_bastN hX 15 i rfl (by omega) (by omega) [oB h 11 (mO b (upd v 3 (nI nl6))), bA g (b 2) 1400 G6, bA g (b 4) 32 FO6, iA g (b 5) 64 w6, iA g (b 6) 8 S6, iA g (b 7) 8 fs, iA g (b 8) 64 rt, lA g (b 9) 25 A6, lA g (b 10) 25 T6, lA g (b 11) 5 U6, iA g (b 12) 25 tn, bA g (b 23) 48 sd, bA g (b 0) 600 tp, bA g (b 35) 16 rd, bA g (b 34) 32 P1, bA g (b 36) 16 (upd M1 i (i8 (FO6 i)))] rfl dX11_mixRand_132 ?_
                refine j_iincN hX i (i + 1) [(1, .int (nI (i + 1))), (0, .ref h)] 1 dX11_mixRand_133 rfl (nI_1 _) (by decide) rfl ?_
                refine j_goto hX 113 dX11_mixRand_136 (by decide) ?_
                refine j_perm [(0, .ref h), (1, .int (nI (i + 1)))] [1, 0] rfl ?_
                exact ih_6 (i + 1) (upd M1 i (i8 (FO6 i))) (by omega) (by omega) (take_put hO (by rw [HH_length]; omega) (by rw [put_read hV.2 (by rw [HH_length]; omega), getD_B (HH_B _ _)]))
          refine j_perm [(0, .ref h), (1, .int (nI 0))] [1, 0] rfl ?_
          exact lp_4 _ 0 mx (Nat.lt_succ_self _) (by omega) (by rw [List.take_zero, putL_nil])
        · skip
          refine j_pc 66 rfl ?_
          refine j_aload_n hX 0 dX11_mixRand_66 rfl ?_
          refine j_get hX in11 11 0 34 (v := .ref (b 34)) rfl rfl (by decide) (List.mem_of_getElem? (i := 5) rfl) rfl rfl dX11_mixRand_67 ?_
          refine j_iload_n hX 1 dX11_mixRand_70 rfl ?_
          refine j_aload_n hX 0 dX11_mixRand_71 rfl ?_
          refine j_get hX in11 11 0 4 (v := .ref (b 4)) rfl rfl (by decide) (List.mem_of_getElem? (i := 6) rfl) rfl rfl dX11_mixRand_72 ?_
          refine j_iload_n hX 1 dX11_mixRand_75 rfl ?_
          refine j_baldN hX 2 i rfl (by omega) (by omega) dX11_mixRand_76 ?_
          refine j_bastN hX 14 i rfl (by omega) (by omega) [oB h 11 (mO b (upd v 3 (nI nl5))), bA g (b 2) 1400 G5, bA g (b 4) 32 FO5, iA g (b 5) 64 w5, iA g (b 6) 8 S5, iA g (b 7) 8 fs, iA g (b 8) 64 rt, lA g (b 9) 25 A5, lA g (b 10) 25 T5, lA g (b 11) 5 U5, iA g (b 12) 25 tn, bA g (b 23) 48 sd, bA g (b 0) 600 tp, bA g (b 35) 16 rd, bA g (b 34) 32 (upd P1 i (i8 (FO5 i))), bA g (b 36) 16 mx] rfl dX11_mixRand_77 ?_
          refine j_pc 78 rfl ?_
          refine j_iincN hX i (i + 1) [(1, .int (nI (i + 1))), (0, .ref h)] 1 dX11_mixRand_78 rfl (nI_1 _) (by decide) rfl ?_
          refine j_goto hX 60 dX11_mixRand_81 (by decide) ?_
          refine j_perm [(0, .ref h), (1, .int (nI (i + 1)))] [1, 0] rfl ?_
          exact ih_3 (i + 1) (upd P1 i (i8 (FO5 i))) (by omega) (by omega) (take_put hO (by rw [HH_length]; omega) (by rw [put_read hW.2 (by rw [HH_length]; omega), getD_B (HH_B _ _)]))
    refine j_perm [(0, .ref h), (1, .int (nI 0))] [1, 0] rfl ?_
    exact lp_1 _ 0 pf (Nat.lt_succ_self _) (by omega) (by rw [List.take_zero, putL_nil])
  · skip
    refine j_aload_n hX 0 dX11_mixRand_5 rfl ?_
    refine j_gete hX (nI fm) in11 11 0 15 rfl rfl (by decide) (List.mem_of_getElem? (i := 2) rfl) rfl rfl hv15 dX11_mixRand_6 ?_
    refine j_if_neN hX fm 21 dX11_mixRand_9 (by decide) (by omega) (fun b_9 => ?_) (fun b_9 => absurd b_9 (by omega))
    refine j_aload_n hX 0 dX11_mixRand_21 rfl ?_
    refine j_iconst hX (1) dX11_mixRand_22 (by decide) ?_
    refine j_callV2 hX 1 (c_laySeed l g h b (upd v 3 (nI 0)) 0 f sd nn 1 rfl hv16 (by omega) (by omega) (by omega) hB) gX11_mixRand_X11_laySeed (by decide +kernel) rfl ⟨rfl, rfl⟩ ⟨Nat.le_of_ble_eq_true rfl, Nat.le_of_ble_eq_true rfl⟩ 11 0 rfl rfl [0, 1, 11] [2, 3, 4, 5, 6, 7, 8, 9, 10, 12, 13, 14, 15] 16 rfl (by decide) (fun jj : (Nat → Int32) => [oB h 11 (mO b (upd v 3 (nI (0 + nn)))), bA g (b 2) 1400 jj, bA g (b 4) 32 dg, iA g (b 5) 64 w0, iA g (b 6) 8 S0, iA g (b 7) 8 fs, iA g (b 8) 64 rt, lA g (b 9) 25 A0, lA g (b 10) 25 T0, lA g (b 11) 5 U0, iA g (b 12) 25 tn, bA g (b 23) 48 sd, bA g (b 0) 600 tp, bA g (b 35) 16 rd, bA g (b 34) 32 pf, bA g (b 36) 16 mx]) (fun _ => rfl) (by decide) [h, (b 2), (b 4), (b 5), (b 6), (b 7), (b 8), (b 9), (b 10), (b 11), (b 12), (b 23), (b 0), (b 35), (b 34), (b 36)] rfl (fun _ => rfl) (fun _ => rfl) [bA g (b 4) 32 dg, iA g (b 5) 64 w0, iA g (b 6) 8 S0, iA g (b 7) 8 fs, iA g (b 8) 64 rt, lA g (b 9) 25 A0, lA g (b 10) 25 T0, lA g (b 11) 5 U0, iA g (b 12) 25 tn, bA g (b 0) 600 tp, bA g (b 35) 16 rd, bA g (b 34) 32 pf, bA g (b 36) 16 mx] rfl (fun _ => rfl) rfl [] rfl (Nat.le_of_ble_eq_true rfl) ⟨Nat.le_refl _, Nat.le_refl _⟩ dX11_mixRand_23 ?_
    intro F1 hF1
    try dsimp only at hF1
    refine j_w [oB h 11 (mO b (upd v 3 (nI (0 + nn)))), bA g (b 2) 1400 F1, bA g (b 4) 32 dg, iA g (b 5) 64 w0, iA g (b 6) 8 S0, iA g (b 7) 8 fs, iA g (b 8) 64 rt, lA g (b 9) 25 A0, lA g (b 10) 25 T0, lA g (b 11) 5 U0, iA g (b 12) 25 tn, bA g (b 23) 48 sd, bA g (b 0) 600 tp, bA g (b 35) 16 rd, bA g (b 34) 32 pf, bA g (b 36) 16 mx] rfl ?_
    refine j_st [] rfl ?_
    refine j_pc 26 rfl ?_
    refine j_aload_n hX 0 dX11_mixRand_26 rfl ?_
    refine j_aload_n hX 0 dX11_mixRand_27 rfl ?_
    refine j_get hX in11 11 0 35 (v := .ref (b 35)) rfl rfl (by decide) (List.mem_of_getElem? (i := 3) rfl) rfl rfl dX11_mixRand_28 ?_
    refine j_iconst hX (0) dX11_mixRand_31 (by decide) ?_
    refine j_aload_n hX 0 dX11_mixRand_32 rfl ?_
    refine j_gete hX (nI nn) in11 11 0 16 rfl rfl (by decide) (List.mem_of_getElem? (i := 4) rfl) rfl rfl hv16 dX11_mixRand_33 ?_
    refine j_callV2 hX 3 (c_layRow l g h b (upd v 3 (nI (0 + nn))) (0 + nn) F1 (b 35) 16 rd 0 nn rfl (by omega) (by omega) (by omega) hRdB) gX11_mixRand_X11_layRow (by decide +kernel) rfl ⟨rfl, rfl⟩ ⟨Nat.le_of_ble_eq_true rfl, Nat.le_of_ble_eq_true rfl⟩ 11 0 rfl rfl [0, 1, 13] [2, 3, 4, 5, 6, 7, 8, 9, 10, 11, 12, 14, 15] 16 rfl (by decide) (fun jj : (Nat → Int32) => [oB h 11 (mO b (upd v 3 (nI ((0 + nn) + nn)))), bA g (b 2) 1400 jj, bA g (b 4) 32 dg, iA g (b 5) 64 w0, iA g (b 6) 8 S0, iA g (b 7) 8 fs, iA g (b 8) 64 rt, lA g (b 9) 25 A0, lA g (b 10) 25 T0, lA g (b 11) 5 U0, iA g (b 12) 25 tn, bA g (b 23) 48 sd, bA g (b 0) 600 tp, bA g (b 35) 16 rd, bA g (b 34) 32 pf, bA g (b 36) 16 mx]) (fun _ => rfl) (by decide) [h, (b 2), (b 4), (b 5), (b 6), (b 7), (b 8), (b 9), (b 10), (b 11), (b 12), (b 23), (b 0), (b 35), (b 34), (b 36)] rfl (fun _ => rfl) (fun _ => rfl) [bA g (b 4) 32 dg, iA g (b 5) 64 w0, iA g (b 6) 8 S0, iA g (b 7) 8 fs, iA g (b 8) 64 rt, lA g (b 9) 25 A0, lA g (b 10) 25 T0, lA g (b 11) 5 U0, iA g (b 12) 25 tn, bA g (b 23) 48 sd, bA g (b 0) 600 tp, bA g (b 34) 32 pf, bA g (b 36) 16 mx] rfl (fun _ => rfl) rfl [] rfl (Nat.le_of_ble_eq_true rfl) ⟨Nat.le_refl _, Nat.le_refl _⟩ dX11_mixRand_36 ?_
    intro F2 hF2
    try dsimp only at hF2
    refine j_w [oB h 11 (mO b (upd v 3 (nI ((0 + nn) + nn)))), bA g (b 2) 1400 F2, bA g (b 4) 32 dg, iA g (b 5) 64 w0, iA g (b 6) 8 S0, iA g (b 7) 8 fs, iA g (b 8) 64 rt, lA g (b 9) 25 A0, lA g (b 10) 25 T0, lA g (b 11) 5 U0, iA g (b 12) 25 tn, bA g (b 23) 48 sd, bA g (b 0) 600 tp, bA g (b 35) 16 rd, bA g (b 34) 32 pf, bA g (b 36) 16 mx] rfl ?_
    refine j_st [] rfl ?_
    refine j_aload_n hX 0 dX11_mixRand_39 rfl ?_
    refine j_pc 40 rfl ?_
    refine j_callV2 hX 0 (c_layTape l g h b (upd v 3 (nI ((0 + nn) + nn))) ((0 + nn) + nn) F2 tp ntp rfl hv1 (by omega) (by omega) hTpB) gX11_mixRand_X11_layTape (by decide +kernel) rfl ⟨rfl, rfl⟩ ⟨Nat.le_of_ble_eq_true rfl, Nat.le_of_ble_eq_true rfl⟩ 11 0 rfl rfl [0, 1, 12] [2, 3, 4, 5, 6, 7, 8, 9, 10, 11, 13, 14, 15] 16 rfl (by decide) (fun jj : (Nat → Int32) => [oB h 11 (mO b (upd v 3 (nI (((0 + nn) + nn) + ntp)))), bA g (b 2) 1400 jj, bA g (b 4) 32 dg, iA g (b 5) 64 w0, iA g (b 6) 8 S0, iA g (b 7) 8 fs, iA g (b 8) 64 rt, lA g (b 9) 25 A0, lA g (b 10) 25 T0, lA g (b 11) 5 U0, iA g (b 12) 25 tn, bA g (b 23) 48 sd, bA g (b 0) 600 tp, bA g (b 35) 16 rd, bA g (b 34) 32 pf, bA g (b 36) 16 mx]) (fun _ => rfl) (by decide) [h, (b 2), (b 4), (b 5), (b 6), (b 7), (b 8), (b 9), (b 10), (b 11), (b 12), (b 23), (b 0), (b 35), (b 34), (b 36)] rfl (fun _ => rfl) (fun _ => rfl) [bA g (b 4) 32 dg, iA g (b 5) 64 w0, iA g (b 6) 8 S0, iA g (b 7) 8 fs, iA g (b 8) 64 rt, lA g (b 9) 25 A0, lA g (b 10) 25 T0, lA g (b 11) 5 U0, iA g (b 12) 25 tn, bA g (b 23) 48 sd, bA g (b 35) 16 rd, bA g (b 34) 32 pf, bA g (b 36) 16 mx] rfl (fun _ => rfl) rfl [] rfl (Nat.le_of_ble_eq_true rfl) ⟨Nat.le_refl _, Nat.le_refl _⟩ dX11_mixRand_40 ?_
    intro F3 hF3
    try dsimp only at hF3
    refine j_w [oB h 11 (mO b (upd v 3 (nI (((0 + nn) + nn) + ntp)))), bA g (b 2) 1400 F3, bA g (b 4) 32 dg, iA g (b 5) 64 w0, iA g (b 6) 8 S0, iA g (b 7) 8 fs, iA g (b 8) 64 rt, lA g (b 9) 25 A0, lA g (b 10) 25 T0, lA g (b 11) 5 U0, iA g (b 12) 25 tn, bA g (b 23) 48 sd, bA g (b 0) 600 tp, bA g (b 35) 16 rd, bA g (b 34) 32 pf, bA g (b 36) 16 mx] rfl ?_
    refine j_st [] rfl ?_
    refine j_aload_n hX 0 dX11_mixRand_43 rfl ?_
    refine j_aload_n hX 0 dX11_mixRand_44 rfl ?_
    refine j_gete hX (nI fm) in11 11 0 15 rfl rfl (by decide) (List.mem_of_getElem? (i := 2) rfl) rfl rfl hv15 dX11_mixRand_45 ?_
    refine j_callV2 hX 1 (c_hashLaid l g h b (upd v 3 (nI (((0 + nn) + nn) + ntp))) (((0 + nn) + nn) + ntp) F3 dg w0 S0 fs rt A0 T0 U0 tn fm rfl (by omega) hfs hrt htn (by omega)) gX11_mixRand_X11_hashLaid (by decide +kernel) rfl ⟨rfl, rfl⟩ ⟨Nat.le_of_ble_eq_true rfl, Nat.le_of_ble_eq_true rfl⟩ 11 0 rfl rfl [0, 1, 2, 3, 4, 5, 6, 7, 8, 9, 10] [11, 12, 13, 14, 15] 16 rfl (by decide) (fun jj : (Nat → Int32) × (Nat → Int32) × (Nat → Int64) × (Nat → Int64) × (Nat → Int64) × Nat × (Nat → Int32) × (Nat → Int32) => [oB h 11 (mO b (upd v 3 (nI jj.2.2.2.2.2.1))), bA g (b 2) 1400 jj.2.2.2.2.2.2.1, bA g (b 4) 32 jj.2.2.2.2.2.2.2, iA g (b 5) 64 jj.1, iA g (b 6) 8 jj.2.1, iA g (b 7) 8 fs, iA g (b 8) 64 rt, lA g (b 9) 25 jj.2.2.1, lA g (b 10) 25 jj.2.2.2.1, lA g (b 11) 5 jj.2.2.2.2.1, iA g (b 12) 25 tn, bA g (b 23) 48 sd, bA g (b 0) 600 tp, bA g (b 35) 16 rd, bA g (b 34) 32 pf, bA g (b 36) 16 mx]) (fun _ => rfl) (by decide) [h, (b 2), (b 4), (b 5), (b 6), (b 7), (b 8), (b 9), (b 10), (b 11), (b 12), (b 23), (b 0), (b 35), (b 34), (b 36)] rfl (fun _ => rfl) (fun _ => rfl) [bA g (b 23) 48 sd, bA g (b 0) 600 tp, bA g (b 35) 16 rd, bA g (b 34) 32 pf, bA g (b 36) 16 mx] rfl (fun _ => rfl) rfl [] rfl (Nat.le_of_ble_eq_true rfl) ⟨Nat.le_refl _, Nat.le_refl _⟩ dX11_mixRand_48 ?_
    rintro ⟨w5, S5, A5, T5, U5, nl5, G5, FO5⟩ hW
    try dsimp only at hW
    refine j_w [oB h 11 (mO b (upd v 3 (nI nl5))), bA g (b 2) 1400 G5, bA g (b 4) 32 FO5, iA g (b 5) 64 w5, iA g (b 6) 8 S5, iA g (b 7) 8 fs, iA g (b 8) 64 rt, lA g (b 9) 25 A5, lA g (b 10) 25 T5, lA g (b 11) 5 U5, iA g (b 12) 25 tn, bA g (b 23) 48 sd, bA g (b 0) 600 tp, bA g (b 35) 16 rd, bA g (b 34) 32 pf, bA g (b 36) 16 mx] rfl ?_
    refine j_st [] rfl ?_
    rw [hF3, hF2, hF1, putL_app' (by first | (simp only [List.length_append, mskL_length, slice_length, HASH0_length, Zl_length]; omega) | simp only [List.length_append, mskL_length, slice_length, HASH0_length, Zl_length]), putL_app' (by first | (simp only [List.length_append, mskL_length, slice_length, HASH0_length, Zl_length]; omega) | simp only [List.length_append, mskL_length, slice_length, HASH0_length, Zl_length]), slice_put (by first | (simp only [List.length_append, mskL_length, slice_length, HASH0_length, Zl_length]; omega) | simp only [List.length_append, mskL_length, slice_length, HASH0_length, Zl_length])] at hW
    refine j_aload_n hX 0 dX11_mixRand_51 rfl ?_
    refine j_gete hX (nI fm) in11 11 0 15 rfl rfl (by decide) (List.mem_of_getElem? (i := 2) rfl) rfl rfl hv15 dX11_mixRand_52 ?_
    refine j_if_neN hX fm 111 dX11_mixRand_55 (by decide) (by omega) (fun b_55 => ?_) (fun b_55 => absurd b_55 (by omega))
    refine j_pc 111 rfl ?_
    refine j_iconst hX (0) dX11_mixRand_111 (by decide) ?_
    refine j_st [.int (nI 0)] rfl ?_
    refine j_istore_n hX 1 [(1, .int (nI 0)), (0, .ref h)] dX11_mixRand_112 rfl (by decide) rfl ?_
    have lp_7 : ∀ (n_8 : Nat) (i : Nat) (M1 : Nat → Int32), (nn - i < n_8) → (i ≤ nn) → (M1 = putL mx 0 ((HH fm (slice sd 16 nn ++ ((slice rd 0 nn) ++ (slice tp 0 ntp)))).take i)) → J p l e ({ frames := 4, cells := 0, slots := 0, locals := 97 } : Room) s m ([.ref h] : List Value).toArray below meth c g A 2 Q 0 0 [oB h 11 (mO b (upd v 3 (nI nl5))), bA g (b 2) 1400 G5, bA g (b 4) 32 FO5, iA g (b 5) 64 w5, iA g (b 6) 8 S5, iA g (b 7) 8 fs, iA g (b 8) 64 rt, lA g (b 9) 25 A5, lA g (b 10) 25 T5, lA g (b 11) 5 U5, iA g (b 12) 25 tn, bA g (b 23) 48 sd, bA g (b 0) 600 tp, bA g (b 35) 16 rd, bA g (b 34) 32 pf, bA g (b 36) 16 M1] [(0, .ref h), (1, .int (nI i))] 113 [] := by
      intro n_8
      induction n_8 with
      | zero => intro i M1 hm; exact absurd hm (Nat.not_lt_zero _)
      | succ n_8 ih_9 =>
        intro i M1 hm hi hO
        refine j_iload_n hX 1 dX11_mixRand_113 rfl ?_
        refine j_aload_n hX 0 dX11_mixRand_114 rfl ?_
        refine j_gete hX (nI nn) in11 11 0 16 rfl rfl (by decide) (List.mem_of_getElem? (i := 4) rfl) rfl rfl hv16 dX11_mixRand_115 ?_
        refine j_icmp_geN hX i nn 139 dX11_mixRand_118 (by decide) (by omega) (by omega) (fun b_118 => ?_) (fun b_118 => ?_)
        · skip
          exact hret (w5, S5, A5, T5, U5, nl5, G5, FO5, pf, M1) (by dsimp only; exact ⟨hW.1, hPB, by rw [hO]; exact putL_B hMxB (isBL_take (HH_B _ _) _), by rw [hO, show i = nn by omega, MIXED, if_neg h0, HH, if_neg h0]⟩) 139 _ .return_ dX11_mixRand_139 rfl
        · skip
          refine j_aload_n hX 0 dX11_mixRand_121 rfl ?_
          refine j_pc 122 rfl ?_
          refine j_get hX in11 11 0 36 (v := .ref (b 36)) rfl rfl (by decide) (List.mem_of_getElem? (i := 7) rfl) rfl rfl dX11_mixRand_122 ?_
          refine j_iload_n hX 1 dX11_mixRand_125 rfl ?_
          refine j_aload_n hX 0 dX11_mixRand_126 rfl ?_
          refine j_get hX in11 11 0 4 (v := .ref (b 4)) rfl rfl (by decide) (List.mem_of_getElem? (i := 6) rfl) rfl rfl dX11_mixRand_127 ?_
          refine j_iload_n hX 1 dX11_mixRand_130 rfl ?_
          refine j_baldN hX 2 i rfl (by omega) (by omega) dX11_mixRand_131 ?_
          refine j_bastN hX 15 i rfl (by omega) (by omega) [oB h 11 (mO b (upd v 3 (nI nl5))), bA g (b 2) 1400 G5, bA g (b 4) 32 FO5, iA g (b 5) 64 w5, iA g (b 6) 8 S5, iA g (b 7) 8 fs, iA g (b 8) 64 rt, lA g (b 9) 25 A5, lA g (b 10) 25 T5, lA g (b 11) 5 U5, iA g (b 12) 25 tn, bA g (b 23) 48 sd, bA g (b 0) 600 tp, bA g (b 35) 16 rd, bA g (b 34) 32 pf, bA g (b 36) 16 (upd M1 i (i8 (FO5 i)))] rfl dX11_mixRand_132 ?_
          refine j_iincN hX i (i + 1) [(1, .int (nI (i + 1))), (0, .ref h)] 1 dX11_mixRand_133 rfl (nI_1 _) (by decide) rfl ?_
          refine j_pc 136 rfl ?_
          refine j_goto hX 113 dX11_mixRand_136 (by decide) ?_
          refine j_perm [(0, .ref h), (1, .int (nI (i + 1)))] [1, 0] rfl ?_
          exact ih_9 (i + 1) (upd M1 i (i8 (FO5 i))) (by omega) (by omega) (take_put hO (by rw [HH_length]; omega) (by rw [put_read hW.2 (by rw [HH_length]; omega), getD_B (HH_B _ _)]))
    refine j_perm [(0, .ref h), (1, .int (nI 0))] [1, 0] rfl ?_
    exact lp_7 _ 0 mx (Nat.lt_succ_self _) (by omega) (by rw [List.take_zero, putL_nil])

set_option maxHeartbeats 4000000 in
set_option maxRecDepth 100000 in
/-- the reference: point -/
theorem c_point (l : Launch) (g : jG) (h : Nat) (b : Nat → Nat) (v : Nat → Int32) (n0 : Nat) (f : Nat → Int32) (dg : Nat → Int32) (w0 : Nat → Int32) (S0 : Nat → Int32) (fs : Nat → Int32) (rt : Nat → Int32) (A0 : Nat → Int64) (T0 : Nat → Int64) (U0 : Nat → Int64) (tn : Nat → Int32) (sd : Nat → Int32) (tp : Nat → Int32) (ntp : Nat) (ro : Nat → Int32) (pf : Nat → Int32) (mx : Nat → Int32) (xf : Nat → Int32) (fm : Nat) (nn : Nat) (ht : Nat) (lys : Nat) (fa : Nat) (mk : Nat) (hfs : ∀ j, j < 8 → fs j = s_first.getD j 0) (hrt : ∀ j, j < 64 → rt j = s_cube.getD j 0) (htn : ∀ k, k < 25 → tn k = s_turns.getD k 0) (hv3 : v 3 = nI n0) (hn0 : n0 ≤ 1400) (hB : isB sd) (hv1 : v 1 = nI ntp) (hntp : ntp ≤ 600) (hTpB : isB tp) (hRoB : isB ro) (hPB : isB pf) (hMxB : isB mx) (hv15 : v 15 = nI fm) (hv16 : v 16 = nI nn) (hv17 : v 17 = nI ht) (hv18 : v 18 = nI lys) (hv19 : v 19 = nI fa) (hv20 : v 20 = nI mk) (hfm : fm < 2) (hnn : nn ≤ 16) (hht : ht ≤ 2) (hlys : 1 ≤ lys ∧ lys ≤ 2) (hfa : 1 ≤ fa ∧ fa ≤ 4) (hmk : 1 ≤ mk ∧ mk ≤ 6) : jC l g yX11_point wsX11_point ({ frames := 4, cells := 0, slots := 0, locals := 97 } : Room) [.ref h, .ref (b 36)] [oB h 11 (mO b v), bA g (b 2) 1400 f, bA g (b 4) 32 dg, iA g (b 5) 64 w0, iA g (b 6) 8 S0, iA g (b 7) 8 fs, iA g (b 8) 64 rt, lA g (b 9) 25 A0, lA g (b 10) 25 T0, lA g (b 11) 5 U0, iA g (b 12) 25 tn, bA g (b 23) 48 sd, bA g (b 0) 600 tp, bA g (b 32) 16 ro, bA g (b 34) 32 pf, bA g (b 36) 16 mx, iA g (b 37) 8 xf] (fun jj : (Nat → Int32) × (Nat → Int32) × (Nat → Int64) × (Nat → Int64) × (Nat → Int64) × Nat × (Nat → Int32) × (Nat → Int32) × (Nat → Int32) × (Nat → Int32) => none) (fun jj : (Nat → Int32) × (Nat → Int32) × (Nat → Int64) × (Nat → Int64) × (Nat → Int64) × Nat × (Nat → Int32) × (Nat → Int32) × (Nat → Int32) × (Nat → Int32) => jj.2.2.2.2.2.1 ≤ 1400 ∧ isB jj.2.2.2.2.2.2.2.2.1 ∧ ∀ j, j < 8 → jj.2.2.2.2.2.2.2.2.2 j = ixV (IXS fm nn sd ht lys fa mk (slice mx 0 nn) (slice ro 0 nn) (slice tp 0 ntp)) mk j) (fun jj : (Nat → Int32) × (Nat → Int32) × (Nat → Int64) × (Nat → Int64) × (Nat → Int64) × Nat × (Nat → Int32) × (Nat → Int32) × (Nat → Int32) × (Nat → Int32) => [oB h 11 (mO b (upd v 3 (nI jj.2.2.2.2.2.1))), bA g (b 2) 1400 jj.2.2.2.2.2.2.1, bA g (b 4) 32 jj.2.2.2.2.2.2.2.1, iA g (b 5) 64 jj.1, iA g (b 6) 8 jj.2.1, iA g (b 7) 8 fs, iA g (b 8) 64 rt, lA g (b 9) 25 jj.2.2.1, lA g (b 10) 25 jj.2.2.2.1, lA g (b 11) 5 jj.2.2.2.2.1, iA g (b 12) 25 tn, bA g (b 23) 48 sd, bA g (b 0) 600 tp, bA g (b 32) 16 ro, bA g (b 34) 32 jj.2.2.2.2.2.2.2.2.1, bA g (b 36) 16 mx, iA g (b 37) 8 jj.2.2.2.2.2.2.2.2.2]) := by
  refine jC.of (cc := cX11_point) (own := RX11) (maxL := 5) (ret := none) (by decide +kernel) rfl rfl (Nat.le_of_ble_eq_true rfl) (fun u hu => rfl) ?_
  intro p e s m below meth c A Q hX hret
  have in11 : ∀ w ∈ wsX110, w ∈ wsX11_point := (fun w h => List.mem_cons_of_mem _ (List.mem_append_right _ h))
  refine j_w [oB h 11 (mO b (upd v 3 (nI n0))), bA g (b 2) 1400 f, bA g (b 4) 32 dg, iA g (b 5) 64 w0, iA g (b 6) 8 S0, iA g (b 7) 8 fs, iA g (b 8) 64 rt, lA g (b 9) 25 A0, lA g (b 10) 25 T0, lA g (b 11) 5 U0, iA g (b 12) 25 tn, bA g (b 23) 48 sd, bA g (b 0) 600 tp, bA g (b 32) 16 ro, bA g (b 34) 32 pf, bA g (b 36) 16 mx, iA g (b 37) 8 xf] (by rw [updS (hv3 : (v : Nat → Int32) 3 = nI n0)]) ?_
  refine j_aload_n hX 0 dX11_point_0 rfl ?_
  refine j_iconst hX (0) dX11_point_1 (by decide) ?_
  refine j_st [.int (nI 0), .ref h] rfl ?_
  refine j_put hX (v := .int (nI 0)) (ty := .int) in11 tyX11 tyX11_ok nmX11 11 0 3 rfl rfl (by decide) (List.mem_of_getElem? (i := 1) rfl) rfl rfl rfl rfl rfl (Nat.le_of_ble_eq_true rfl) [oB h 11 (mO b (upd v 3 (nI 0))), bA g (b 2) 1400 f, bA g (b 4) 32 dg, iA g (b 5) 64 w0, iA g (b 6) 8 S0, iA g (b 7) 8 fs, iA g (b 8) 64 rt, lA g (b 9) 25 A0, lA g (b 10) 25 T0, lA g (b 11) 5 U0, iA g (b 12) 25 tn, bA g (b 23) 48 sd, bA g (b 0) 600 tp, bA g (b 32) 16 ro, bA g (b 34) 32 pf, bA g (b 36) 16 mx, iA g (b 37) 8 xf] rfl dX11_point_2 ?_
  have jn_1 : ∀ (nl9 : Nat) (G9 : Nat → Int32) (FO9 : Nat → Int32) (w9 : Nat → Int32) (S9 : Nat → Int32) (A9 : Nat → Int64) (T9 : Nat → Int64) (U9 : Nat → Int64) (P9 : Nat → Int32), (nl9 ≤ 1400) → (isB P9) → (∀ j, j < 32 → FO9 j = lF (PNTS fm nn sd (slice mx 0 nn) (slice ro 0 nn) (slice tp 0 ntp)) j) → J p l e ({ frames := 4, cells := 0, slots := 0, locals := 97 } : Room) s m ([.ref h, .ref (b 36)] : List Value).toArray below meth c g A 5 Q 0 0 [oB h 11 (mO b (upd v 3 (nI nl9))), bA g (b 2) 1400 G9, bA g (b 4) 32 FO9, iA g (b 5) 64 w9, iA g (b 6) 8 S9, iA g (b 7) 8 fs, iA g (b 8) 64 rt, lA g (b 9) 25 A9, lA g (b 10) 25 T9, lA g (b 11) 5 U9, iA g (b 12) 25 tn, bA g (b 23) 48 sd, bA g (b 0) 600 tp, bA g (b 32) 16 ro, bA g (b 34) 32 P9, bA g (b 36) 16 mx, iA g (b 37) 8 xf] [(0, .ref h), (1, .ref (b 36))] 120 [] := by
    intro nl9 G9 FO9 w9 S9 A9 T9 U9 P9 hnl9 hP9 hD9
    obtain ⟨b1, b2, b3, b4, b5⟩ := teN_bd hht hlys hfa hmk
    have hte : teN ht lys fa mk = (mk * fa + 7) / 8 + (ht * (lys - 1) + 7) / 8 := rfl
    have hq1 := Nat.two_pow_pos (ht * (lys - 1))
    have hq2 := Nat.two_pow_pos ht
    have hp1 := pow_le16 (show ht * (lys - 1) ≤ 4 by omega)
    have hp2 := pow_le16 (show ht ≤ 4 by omega)
    obtain ⟨ix, hixd⟩ : ∃ z, z = IXS fm nn sd ht lys fa mk (slice mx 0 nn) (slice ro 0 nn) (slice tp 0 ntp) := ⟨_, rfl⟩
    have hxe : ∀ j, j < 2 + mk → ixN FO9 ht lys fa mk j = ix j := fun j hj => by rw [hixd]; exact ixN_congr hD9 hht hlys hfa hmk j hj
    refine j_iconst hX (0) dX11_point_120 (by decide) ?_
    refine j_st [.int (nI 0)] rfl ?_
    refine j_istore_n hX 2 [(2, .int (nI 0)), (0, .ref h), (1, .ref (b 36))] dX11_point_121 rfl (by decide) rfl ?_
    have lp_2 : ∀ (n_3 : Nat) (i : Nat) (Q1 : Nat → Int32), (6 - i < n_3) → (i ≤ 6) → (∀ j, j < i → Q1 (2 + j) = ixV ix mk (2 + j)) → J p l e ({ frames := 4, cells := 0, slots := 0, locals := 97 } : Room) s m ([.ref h, .ref (b 36)] : List Value).toArray below meth c g A 5 Q 0 0 [oB h 11 (mO b (upd v 3 (nI nl9))), bA g (b 2) 1400 G9, bA g (b 4) 32 FO9, iA g (b 5) 64 w9, iA g (b 6) 8 S9, iA g (b 7) 8 fs, iA g (b 8) 64 rt, lA g (b 9) 25 A9, lA g (b 10) 25 T9, lA g (b 11) 5 U9, iA g (b 12) 25 tn, bA g (b 23) 48 sd, bA g (b 0) 600 tp, bA g (b 32) 16 ro, bA g (b 34) 32 P9, bA g (b 36) 16 mx, iA g (b 37) 8 Q1] [(0, .ref h), (1, .ref (b 36)), (2, .int (nI i))] 122 [] := by
      intro n_3
      induction n_3 with
      | zero => intro i Q1 hm; exact absurd hm (Nat.not_lt_zero _)
      | succ n_3 ih_4 =>
        intro i Q1 hm hi hQ
        refine j_iload_n hX 2 dX11_point_122 rfl ?_
        refine j_bipush hX (6) dX11_point_123 (by decide) ?_
        refine j_pc 125 rfl ?_
        refine j_icmp_geN hX i 6 219 dX11_point_125 (by decide) (by omega) (by omega) (fun b_125 => ?_) (fun b_125 => ?_)
        · skip
          have hbt : (ht * (lys - 1) + 7) / 8 = if ht * (lys - 1) = 0 then 0 else 1 := by split <;> omega
          refine j_aload_n hX 0 dX11_point_219 rfl ?_
          refine j_gete hX (nI mk) in11 11 0 20 rfl rfl (by decide) (List.mem_of_getElem? (i := 8) rfl) rfl rfl hv20 dX11_point_220 ?_
          refine j_aload_n hX 0 dX11_point_223 rfl ?_
          refine j_gete hX (nI fa) in11 11 0 19 rfl rfl (by decide) (List.mem_of_getElem? (i := 7) rfl) rfl rfl hv19 dX11_point_224 ?_
          refine j_imulN hX mk fa dX11_point_227 ?_
          refine j_bipush hX (7) dX11_point_228 (by decide) ?_
          refine j_iaddN hX (mk * fa) 7 dX11_point_230 ?_
          refine j_pc 231 rfl ?_
          refine j_bipush hX (8) dX11_point_231 (by decide) ?_
          refine j_idivN hX ((mk * fa) + 7) 8 (by omega) (by omega) (by omega) dX11_point_233 ?_
          refine j_istore_n hX 2 [(2, .int (nI (((mk * fa) + 7) / 8))), (0, .ref h), (1, .ref (b 36))] dX11_point_234 rfl (by decide) rfl ?_
          refine j_aload_n hX 1 dX11_point_235 rfl ?_
          refine j_gete hX (nI ht) in11 11 0 17 rfl rfl (by decide) (List.mem_of_getElem? (i := 10) rfl) rfl rfl hv17 dX11_point_236 ?_
          refine j_aload_n hX 1 dX11_point_239 rfl ?_
          refine j_gete hX (nI lys) in11 11 0 18 rfl rfl (by decide) (List.mem_of_getElem? (i := 11) rfl) rfl rfl hv18 dX11_point_240 ?_
          refine j_iconst hX (1) dX11_point_243 (by decide) ?_
          refine j_pc 244 rfl ?_
          refine j_isubN hX lys 1 (by omega) dX11_point_244 ?_
          refine j_imulN hX ht (lys - 1) dX11_point_245 ?_
          refine j_istore_n hX 3 [(3, .int (nI (ht * (lys - 1)))), (2, .int (nI (((mk * fa) + 7) / 8))), (0, .ref h), (1, .ref (b 36))] dX11_point_246 rfl (by decide) rfl ?_
          by_cases hb0 : ht * (lys - 1) = 0
          · skip
            have hx00 : (0 : Int32) = ixV ix mk 0 := by have e9 : ix 0 = 0 := (by rw [← hxe 0 (by omega), ixN, hb0, Nat.pow_zero, Nat.mod_one]); unfold ixV; rw [if_pos (by omega), e9]; try rfl
            have hx11 : nI (ix 1) = ixV ix mk 1 := by unfold ixV; rw [if_pos (by omega)]
            refine j_aload_n hX 2 dX11_point_247 rfl ?_
            refine j_get hX in11 11 0 37 (v := .ref (b 37)) rfl rfl (by decide) (List.mem_of_getElem? (i := 9) rfl) rfl rfl dX11_point_248 ?_
            refine j_iconst hX (0) dX11_point_251 (by decide) ?_
            refine j_iload_n hX 0 dX11_point_252 rfl ?_
            refine j_if_neN hX (ht * (lys - 1)) 260 dX11_point_253 (by decide) (by omega) (fun b_253 => absurd b_253 (by omega)) (fun b_253 => ?_)
            refine j_pc 256 rfl ?_
            refine j_iconst hX (0) dX11_point_256 (by decide) ?_
            refine j_goto hX 272 dX11_point_257 (by decide) ?_
            refine j_iastN hX 16 0 rfl (by omega) (by omega) [oB h 11 (mO b (upd v 3 (nI nl9))), bA g (b 2) 1400 G9, bA g (b 4) 32 FO9, iA g (b 5) 64 w9, iA g (b 6) 8 S9, iA g (b 7) 8 fs, iA g (b 8) 64 rt, lA g (b 9) 25 A9, lA g (b 10) 25 T9, lA g (b 11) 5 U9, iA g (b 12) 25 tn, bA g (b 23) 48 sd, bA g (b 0) 600 tp, bA g (b 32) 16 ro, bA g (b 34) 32 P9, bA g (b 36) 16 mx, iA g (b 37) 8 (upd Q1 0 0)] rfl dX11_point_272 ?_
            refine j_iload_n hX 1 dX11_point_273 rfl ?_
            refine j_iload_n hX 0 dX11_point_274 rfl ?_
            refine j_if_neN hX (ht * (lys - 1)) 282 dX11_point_275 (by decide) (by omega) (fun b_275 => absurd b_275 (by omega)) (fun b_275 => ?_)
            refine j_iconst hX (0) dX11_point_278 (by decide) ?_
            refine j_goto hX 283 dX11_point_279 (by decide) ?_
            refine j_pc 283 rfl ?_
            refine j_iaddN hX (((mk * fa) + 7) / 8) 0 dX11_point_283 ?_
            refine j_istore_n hX 2 [(2, .int (nI ((((mk * fa) + 7) / 8) + 0))), (3, .int (nI (ht * (lys - 1)))), (0, .ref h), (1, .ref (b 36))] dX11_point_284 rfl (by decide) rfl ?_
            refine j_aload_n hX 2 dX11_point_285 rfl ?_
            refine j_get hX in11 11 0 37 (v := .ref (b 37)) rfl rfl (by decide) (List.mem_of_getElem? (i := 9) rfl) rfl rfl dX11_point_286 ?_
            refine j_iconst hX (1) dX11_point_289 (by decide) ?_
            refine j_aload_n hX 2 dX11_point_290 rfl ?_
            refine j_get hX in11 11 0 4 (v := .ref (b 4)) rfl rfl (by decide) (List.mem_of_getElem? (i := 6) rfl) rfl rfl dX11_point_291 ?_
            refine j_iload_n hX 0 dX11_point_294 rfl ?_
            refine j_pc 295 rfl ?_
            refine j_baldN hX 2 ((((mk * fa) + 7) / 8) + 0) rfl (by omega) (by omega) dX11_point_295 ?_
            refine j_iconst hX (1) dX11_point_296 (by decide) ?_
            refine j_aload_n hX 2 dX11_point_297 rfl ?_
            refine j_gete hX (nI ht) in11 11 0 17 rfl rfl (by decide) (List.mem_of_getElem? (i := 10) rfl) rfl rfl hv17 dX11_point_298 ?_
            refine j_ishlN hX 1 ht (by omega) (by omega) dX11_point_301 ?_
            refine j_iconst hX (1) dX11_point_302 (by decide) ?_
            refine j_isubN hX (1 * 2 ^ ht) 1 (by omega) dX11_point_303 ?_
            refine j_iand hX dX11_point_304 ?_
            refine j_topeq _ (nI (ix 1)) ((pk_and _ ht (by rw [Nat.one_mul]; exact two_pow_I (by omega))).trans (by rw [← hxe 1 (by omega), ixN, hte, hbt]; first | (rw [if_pos hb0]; rfl) | (rw [if_neg hb0]; rfl))) ?_
            refine j_pc 305 rfl ?_
            refine j_iastN hX 16 1 rfl (by omega) (by omega) [oB h 11 (mO b (upd v 3 (nI nl9))), bA g (b 2) 1400 G9, bA g (b 4) 32 FO9, iA g (b 5) 64 w9, iA g (b 6) 8 S9, iA g (b 7) 8 fs, iA g (b 8) 64 rt, lA g (b 9) 25 A9, lA g (b 10) 25 T9, lA g (b 11) 5 U9, iA g (b 12) 25 tn, bA g (b 23) 48 sd, bA g (b 0) 600 tp, bA g (b 32) 16 ro, bA g (b 34) 32 P9, bA g (b 36) 16 mx, iA g (b 37) 8 (upd (upd Q1 0 0) 1 (nI (ix 1)))] rfl dX11_point_305 ?_
            exact hret (w9, S9, A9, T9, U9, nl9, G9, FO9, P9, upd (upd Q1 0 0) 1 (nI (ix 1))) (by dsimp only; exact ⟨hnl9, hP9, fun j hj => by rw [← hixd]; rcases j with _ | _ | j; (rw [pk_un (by decide), pk_us]; exact hx00); (rw [pk_us]; exact hx11); (rw [pk_un (by omega), pk_un (by omega)]; have h9 := hQ j (by omega); rw [Nat.add_comm 2 j] at h9; exact h9)⟩) 306 _ .return_ dX11_point_306 rfl
          · skip
            have hx00 : nI (ix 0) = ixV ix mk 0 := by unfold ixV; rw [if_pos (by omega)]
            have hx11 : nI (ix 1) = ixV ix mk 1 := by unfold ixV; rw [if_pos (by omega)]
            refine j_aload_n hX 2 dX11_point_247 rfl ?_
            refine j_get hX in11 11 0 37 (v := .ref (b 37)) rfl rfl (by decide) (List.mem_of_getElem? (i := 9) rfl) rfl rfl dX11_point_248 ?_
            refine j_iconst hX (0) dX11_point_251 (by decide) ?_
            refine j_iload_n hX 0 dX11_point_252 rfl ?_
            refine j_if_neN hX (ht * (lys - 1)) 260 dX11_point_253 (by decide) (by omega) (fun b_253 => ?_) (fun b_253 => absurd b_253 (by omega))
            refine j_aload_n hX 2 dX11_point_260 rfl ?_
            refine j_pc 261 rfl ?_
            refine j_get hX in11 11 0 4 (v := .ref (b 4)) rfl rfl (by decide) (List.mem_of_getElem? (i := 6) rfl) rfl rfl dX11_point_261 ?_
            refine j_iload_n hX 1 dX11_point_264 rfl ?_
            refine j_baldN hX 2 (((mk * fa) + 7) / 8) rfl (by omega) (by omega) dX11_point_265 ?_
            refine j_iconst hX (1) dX11_point_266 (by decide) ?_
            refine j_iload_n hX 0 dX11_point_267 rfl ?_
            refine j_ishlN hX 1 (ht * (lys - 1)) (by omega) (by omega) dX11_point_268 ?_
            refine j_iconst hX (1) dX11_point_269 (by decide) ?_
            refine j_isubN hX (1 * 2 ^ (ht * (lys - 1))) 1 (by omega) dX11_point_270 ?_
            refine j_pc 271 rfl ?_
            refine j_iand hX dX11_point_271 ?_
            refine j_topeq _ (nI (ix 0)) ((pk_and _ (ht * (lys - 1)) (by rw [Nat.one_mul]; exact two_pow_I (by omega))).trans (by rw [← hxe 0 (by omega), ixN, hte, hbt, if_neg hb0, Nat.add_sub_cancel]; rfl)) ?_
            refine j_iastN hX 16 0 rfl (by omega) (by omega) [oB h 11 (mO b (upd v 3 (nI nl9))), bA g (b 2) 1400 G9, bA g (b 4) 32 FO9, iA g (b 5) 64 w9, iA g (b 6) 8 S9, iA g (b 7) 8 fs, iA g (b 8) 64 rt, lA g (b 9) 25 A9, lA g (b 10) 25 T9, lA g (b 11) 5 U9, iA g (b 12) 25 tn, bA g (b 23) 48 sd, bA g (b 0) 600 tp, bA g (b 32) 16 ro, bA g (b 34) 32 P9, bA g (b 36) 16 mx, iA g (b 37) 8 (upd Q1 0 (nI (ix 0)))] rfl dX11_point_272 ?_
            refine j_iload_n hX 1 dX11_point_273 rfl ?_
            refine j_iload_n hX 0 dX11_point_274 rfl ?_
            refine j_if_neN hX (ht * (lys - 1)) 282 dX11_point_275 (by decide) (by omega) (fun b_275 => ?_) (fun b_275 => absurd b_275 (by omega))
            refine j_iconst hX (1) dX11_point_282 (by decide) ?_
            refine j_iaddN hX (((mk * fa) + 7) / 8) 1 dX11_point_283 ?_
            refine j_istore_n hX 2 [(2, .int (nI ((((mk * fa) + 7) / 8) + 1))), (3, .int (nI (ht * (lys - 1)))), (0, .ref h), (1, .ref (b 36))] dX11_point_284 rfl (by decide) rfl ?_
            refine j_pc 285 rfl ?_
            refine j_aload_n hX 2 dX11_point_285 rfl ?_
            refine j_get hX in11 11 0 37 (v := .ref (b 37)) rfl rfl (by decide) (List.mem_of_getElem? (i := 9) rfl) rfl rfl dX11_point_286 ?_
            refine j_iconst hX (1) dX11_point_289 (by decide) ?_
            refine j_aload_n hX 2 dX11_point_290 rfl ?_
            refine j_get hX in11 11 0 4 (v := .ref (b 4)) rfl rfl (by decide) (List.mem_of_getElem? (i := 6) rfl) rfl rfl dX11_point_291 ?_
            refine j_iload_n hX 0 dX11_point_294 rfl ?_
            refine j_baldN hX 2 ((((mk * fa) + 7) / 8) + 1) rfl (by omega) (by omega) dX11_point_295 ?_
            refine j_iconst hX (1) dX11_point_296 (by decide) ?_
            refine j_pc 297 rfl ?_
            refine j_aload_n hX 2 dX11_point_297 rfl ?_
            refine j_gete hX (nI ht) in11 11 0 17 rfl rfl (by decide) (List.mem_of_getElem? (i := 10) rfl) rfl rfl hv17 dX11_point_298 ?_
            refine j_ishlN hX 1 ht (by omega) (by omega) dX11_point_301 ?_
            refine j_iconst hX (1) dX11_point_302 (by decide) ?_
            refine j_isubN hX (1 * 2 ^ ht) 1 (by omega) dX11_point_303 ?_
            refine j_iand hX dX11_point_304 ?_
            refine j_topeq _ (nI (ix 1)) ((pk_and _ ht (by rw [Nat.one_mul]; exact two_pow_I (by omega))).trans (by rw [← hxe 1 (by omega), ixN, hte, hbt]; first | (rw [if_pos hb0]; rfl) | (rw [if_neg hb0]; rfl))) ?_
            refine j_iastN hX 16 1 rfl (by omega) (by omega) [oB h 11 (mO b (upd v 3 (nI nl9))), bA g (b 2) 1400 G9, bA g (b 4) 32 FO9, iA g (b 5) 64 w9, iA g (b 6) 8 S9, iA g (b 7) 8 fs, iA g (b 8) 64 rt, lA g (b 9) 25 A9, lA g (b 10) 25 T9, lA g (b 11) 5 U9, iA g (b 12) 25 tn, bA g (b 23) 48 sd, bA g (b 0) 600 tp, bA g (b 32) 16 ro, bA g (b 34) 32 P9, bA g (b 36) 16 mx, iA g (b 37) 8 (upd (upd Q1 0 (nI (ix 0))) 1 (nI (ix 1)))] rfl dX11_point_305 ?_
            exact hret (w9, S9, A9, T9, U9, nl9, G9, FO9, P9, upd (upd Q1 0 (nI (ix 0))) 1 (nI (ix 1))) (by dsimp only; exact ⟨hnl9, hP9, fun j hj => by rw [← hixd]; rcases j with _ | _ | j; (rw [pk_un (by decide), pk_us]; exact hx00); (rw [pk_us]; exact hx11); (rw [pk_un (by omega), pk_un (by omega)]; have h9 := hQ j (by omega); rw [Nat.add_comm 2 j] at h9; exact h9)⟩) 306 _ .return_ dX11_point_306 rfl
        · skip
          have jn_5 : ∀ (cc : Nat), (i < mk → cc = bts FO9 (i * fa) fa) → J p l e ({ frames := 4, cells := 0, slots := 0, locals := 97 } : Room) s m ([.ref h, .ref (b 36)] : List Value).toArray below meth c g A 5 Q 0 0 [oB h 11 (mO b (upd v 3 (nI nl9))), bA g (b 2) 1400 G9, bA g (b 4) 32 FO9, iA g (b 5) 64 w9, iA g (b 6) 8 S9, iA g (b 7) 8 fs, iA g (b 8) 64 rt, lA g (b 9) 25 A9, lA g (b 10) 25 T9, lA g (b 11) 5 U9, iA g (b 12) 25 tn, bA g (b 23) 48 sd, bA g (b 0) 600 tp, bA g (b 32) 16 ro, bA g (b 34) 32 P9, bA g (b 36) 16 mx, iA g (b 37) 8 Q1] [(0, .ref h), (1, .ref (b 36)), (2, .int (nI i)), (3, .int (nI cc))] 191 [] := by
            intro cc hcc
            refine j_pc 191 rfl ?_
            refine j_aload_n hX 0 dX11_point_191 rfl ?_
            refine j_get hX in11 11 0 37 (v := .ref (b 37)) rfl rfl (by decide) (List.mem_of_getElem? (i := 9) rfl) rfl rfl dX11_point_192 ?_
            refine j_iconst hX (2) dX11_point_195 (by decide) ?_
            refine j_iload_n hX 2 dX11_point_196 rfl ?_
            refine j_iaddN hX 2 i dX11_point_197 ?_
            have jn_6 : ∀ (zz : Int32), (zz = ixV ix mk (2 + i)) → J p l e ({ frames := 4, cells := 0, slots := 0, locals := 97 } : Room) s m ([.ref h, .ref (b 36)] : List Value).toArray below meth c g A 5 Q 0 0 [oB h 11 (mO b (upd v 3 (nI nl9))), bA g (b 2) 1400 G9, bA g (b 4) 32 FO9, iA g (b 5) 64 w9, iA g (b 6) 8 S9, iA g (b 7) 8 fs, iA g (b 8) 64 rt, lA g (b 9) 25 A9, lA g (b 10) 25 T9, lA g (b 11) 5 U9, iA g (b 12) 25 tn, bA g (b 23) 48 sd, bA g (b 0) 600 tp, bA g (b 32) 16 ro, bA g (b 34) 32 P9, bA g (b 36) 16 mx, iA g (b 37) 8 Q1] [(0, .ref h), (1, .ref (b 36)), (2, .int (nI i)), (3, .int (nI cc))] 212 [.int zz, .int (nI (2 + i)), .ref (b 37)] := by
              intro zz hzz
              refine j_iastN hX 16 (2 + i) rfl (by omega) (by omega) [oB h 11 (mO b (upd v 3 (nI nl9))), bA g (b 2) 1400 G9, bA g (b 4) 32 FO9, iA g (b 5) 64 w9, iA g (b 6) 8 S9, iA g (b 7) 8 fs, iA g (b 8) 64 rt, lA g (b 9) 25 A9, lA g (b 10) 25 T9, lA g (b 11) 5 U9, iA g (b 12) 25 tn, bA g (b 23) 48 sd, bA g (b 0) 600 tp, bA g (b 32) 16 ro, bA g (b 34) 32 P9, bA g (b 36) 16 mx, iA g (b 37) 8 (upd Q1 (2 + i) zz)] rfl dX11_point_212 ?_
              refine j_iincN hX i (i + 1) [(2, .int (nI (i + 1))), (0, .ref h), (1, .ref (b 36)), (3, .int (nI cc))] 2 dX11_point_213 rfl (nI_1 _) (by decide) rfl ?_
              refine j_goto hX 122 dX11_point_216 (by decide) ?_
              refine j_perm [(0, .ref h), (1, .ref (b 36)), (2, .int (nI (i + 1)))] [1, 2, 0] rfl ?_
              exact ih_4 (i + 1) (upd Q1 (2 + i) zz) (by omega) (by omega) (fun j hj => by by_cases e : j = i; (rw [e, pk_us, hzz]); (rw [pk_un (by omega)]; exact hQ j (by omega)))
            refine j_pc 198 rfl ?_
            refine j_iload_n hX 2 dX11_point_198 rfl ?_
            refine j_aload_n hX 0 dX11_point_199 rfl ?_
            refine j_gete hX (nI mk) in11 11 0 20 rfl rfl (by decide) (List.mem_of_getElem? (i := 8) rfl) rfl rfl hv20 dX11_point_200 ?_
            refine j_icmp_geN hX i mk 210 dX11_point_203 (by decide) (by omega) (by omega) (fun b_203 => ?_) (fun b_203 => ?_)
            · skip
              refine j_bipush hX (-9) dX11_point_210 (by decide) ?_
              exact jn_6 (-9) (by unfold ixV; first | (rw [if_pos (by omega), ← hxe _ (by omega), Nat.add_comm 2 i, hcc (by omega)]; rfl) | rw [if_neg (by omega)])
            · skip
              refine j_iload_n hX 3 dX11_point_206 rfl ?_
              refine j_goto hX 212 dX11_point_207 (by decide) ?_
              exact jn_6 (nI cc) (by unfold ixV; first | (rw [if_pos (by omega), ← hxe _ (by omega), Nat.add_comm 2 i, hcc (by omega)]; rfl) | rw [if_neg (by omega)])
          refine j_iconst hX (0) dX11_point_128 (by decide) ?_
          refine j_pc 129 rfl ?_
          refine j_st [.int (nI 0)] rfl ?_
          refine j_istore_n hX 3 [(3, .int (nI 0)), (0, .ref h), (1, .ref (b 36)), (2, .int (nI i))] dX11_point_129 rfl (by decide) rfl ?_
          refine j_aload_n hX 1 dX11_point_130 rfl ?_
          refine j_gete hX (nI fa) in11 11 0 19 rfl rfl (by decide) (List.mem_of_getElem? (i := 7) rfl) rfl rfl hv19 dX11_point_131 ?_
          refine j_iload_n hX 3 dX11_point_134 rfl ?_
          refine j_imulN hX fa i dX11_point_135 ?_
          refine j_istore hX [(4, .int (nI (fa * i))), (3, .int (nI 0)), (0, .ref h), (1, .ref (b 36)), (2, .int (nI i))] dX11_point_136 (by decide) rfl ?_
          have lp_7 : ∀ (n_8 : Nat) (k : Nat) (cc : Nat) (q : Nat), (fa - k < n_8) → (k ≤ fa) → (q = fa * i + k) → (cc = bts FO9 (i * fa) k) → J p l e ({ frames := 4, cells := 0, slots := 0, locals := 97 } : Room) s m ([.ref h, .ref (b 36)] : List Value).toArray below meth c g A 5 Q 0 0 [oB h 11 (mO b (upd v 3 (nI nl9))), bA g (b 2) 1400 G9, bA g (b 4) 32 FO9, iA g (b 5) 64 w9, iA g (b 6) 8 S9, iA g (b 7) 8 fs, iA g (b 8) 64 rt, lA g (b 9) 25 A9, lA g (b 10) 25 T9, lA g (b 11) 5 U9, iA g (b 12) 25 tn, bA g (b 23) 48 sd, bA g (b 0) 600 tp, bA g (b 32) 16 ro, bA g (b 34) 32 P9, bA g (b 36) 16 mx, iA g (b 37) 8 Q1] [(0, .ref h), (1, .ref (b 36)), (2, .int (nI i)), (3, .int (nI cc)), (4, .int (nI q))] 138 [] := by
            intro n_8
            induction n_8 with
            | zero => intro k cc q hm; exact absurd hm (Nat.not_lt_zero _)
            | succ n_8 ih_9 =>
              intro k cc q hm hk hq hcc
              have hfi : fa * (i + 1) = fa * i + fa := Nat.mul_succ fa i
              have hfb : fa * i ≤ 4 * 6 := Nat.mul_le_mul hfa.2 hi
              refine j_iload hX 4 dX11_point_138 rfl ?_
              refine j_aload_n hX 0 dX11_point_140 rfl ?_
              refine j_pc 141 rfl ?_
              refine j_gete hX (nI fa) in11 11 0 19 rfl rfl (by decide) (List.mem_of_getElem? (i := 7) rfl) rfl rfl hv19 dX11_point_141 ?_
              refine j_iload_n hX 2 dX11_point_144 rfl ?_
              refine j_iconst hX (1) dX11_point_145 (by decide) ?_
              refine j_iaddN hX i 1 dX11_point_146 ?_
              refine j_imulN hX fa (i + 1) dX11_point_147 ?_
              refine j_icmp_geN hX q (fa * (i + 1)) 191 dX11_point_148 (by decide) (by omega) (by omega) (fun b_148 => ?_) (fun b_148 => ?_)
              · skip
                refine j_perm [(0, .ref h), (1, .ref (b 36)), (2, .int (nI i)), (3, .int (nI cc))] [0, 1, 2, 3] rfl ?_
                exact jn_5 cc (fun h9 => by first | (rw [hcc, show k = fa by omega]) | omega)
              · skip
                refine j_iload_n hX 2 dX11_point_151 rfl ?_
                refine j_aload_n hX 0 dX11_point_152 rfl ?_
                refine j_pc 153 rfl ?_
                refine j_gete hX (nI mk) in11 11 0 20 rfl rfl (by decide) (List.mem_of_getElem? (i := 8) rfl) rfl rfl hv20 dX11_point_153 ?_
                refine j_icmp_geN hX i mk 191 dX11_point_156 (by decide) (by omega) (by omega) (fun b_156 => ?_) (fun b_156 => ?_)
                · skip
                  refine j_perm [(0, .ref h), (1, .ref (b 36)), (2, .int (nI i)), (3, .int (nI cc))] [0, 1, 2, 3] rfl ?_
                  exact jn_5 cc (fun h9 => by first | (rw [hcc, show k = fa by omega]) | omega)
                · skip
                  have him := mul_step (n := fa) (show i < mk by omega)
                  have hmc := Nat.mul_comm fa i
                  have hcl := bts_lt FO9 (i * fa) k
                  have hcl2 := pow_le16 (show k ≤ 4 by omega)
                  refine j_iconst hX (2) dX11_point_159 (by decide) ?_
                  refine j_iload_n hX 3 dX11_point_160 rfl ?_
                  refine j_imulN hX 2 cc dX11_point_161 ?_
                  refine j_aload_n hX 0 dX11_point_162 rfl ?_
                  refine j_get hX in11 11 0 4 (v := .ref (b 4)) rfl rfl (by decide) (List.mem_of_getElem? (i := 6) rfl) rfl rfl dX11_point_163 ?_
                  refine j_iload hX 4 dX11_point_166 rfl ?_
                  refine j_pc 168 rfl ?_
                  refine j_bipush hX (8) dX11_point_168 (by decide) ?_
                  refine j_idivN hX q 8 (by omega) (by omega) (by omega) dX11_point_170 ?_
                  refine j_baldN hX 2 (q / 8) rfl (by omega) (by omega) dX11_point_171 ?_
                  refine j_bipush hX (7) dX11_point_172 (by decide) ?_
                  refine j_iload hX 4 dX11_point_174 rfl ?_
                  refine j_bipush hX (8) dX11_point_176 (by decide) ?_
                  refine j_iremN hX q 8 (by omega) (by omega) (by omega) dX11_point_178 ?_
                  refine j_isubN hX 7 (q % 8) (by omega) dX11_point_179 ?_
                  refine j_pc 180 rfl ?_
                  refine j_ishr hX dX11_point_180 ?_
                  refine j_iconst hX (1) dX11_point_181 (by decide) ?_
                  refine j_iand hX dX11_point_182 ?_
                  refine j_topeq _ (nI (bitB FO9 q)) (bit_m _ (by omega)) ?_
                  refine j_iaddN hX (2 * cc) (bitB FO9 q) dX11_point_183 ?_
                  refine j_istore_n hX 3 [(3, .int (nI ((2 * cc) + (bitB FO9 q)))), (0, .ref h), (1, .ref (b 36)), (2, .int (nI i)), (4, .int (nI q))] dX11_point_184 rfl (by decide) rfl ?_
                  refine j_iincN hX q (q + 1) [(4, .int (nI (q + 1))), (3, .int (nI ((2 * cc) + (bitB FO9 q)))), (0, .ref h), (1, .ref (b 36)), (2, .int (nI i))] 4 dX11_point_185 rfl (nI_1 _) (by decide) rfl ?_
                  refine j_goto hX 138 dX11_point_188 (by decide) ?_
                  refine j_perm [(0, .ref h), (1, .ref (b 36)), (2, .int (nI i)), (3, .int (nI ((2 * cc) + (bitB FO9 q)))), (4, .int (nI (q + 1)))] [2, 3, 4, 1, 0] rfl ?_
                  exact ih_9 (k + 1) ((2 * cc) + (bitB FO9 q)) (q + 1) (by omega) (by omega) (by omega) (by rw [hcc, bts, hq, Nat.mul_comm fa i])
          refine j_perm [(0, .ref h), (1, .ref (b 36)), (2, .int (nI i)), (3, .int (nI 0)), (4, .int (nI (fa * i)))] [2, 3, 4, 1, 0] rfl ?_
          exact lp_7 _ 0 0 (fa * i) (Nat.lt_succ_self _) (by omega) (by omega) rfl
    refine j_perm [(0, .ref h), (1, .ref (b 36)), (2, .int (nI 0))] [1, 2, 0] rfl ?_
    exact lp_2 _ 0 xf (Nat.lt_succ_self _) (by omega) (fun j hj => absurd hj (Nat.not_lt_zero j))
  refine j_aload_n hX 0 dX11_point_5 rfl ?_
  refine j_pc 6 rfl ?_
  refine j_aload_n hX 1 dX11_point_6 rfl ?_
  refine j_iconst hX (0) dX11_point_7 (by decide) ?_
  refine j_aload_n hX 0 dX11_point_8 rfl ?_
  refine j_gete hX (nI nn) in11 11 0 16 rfl rfl (by decide) (List.mem_of_getElem? (i := 2) rfl) rfl rfl hv16 dX11_point_9 ?_
  refine j_callV2 hX 3 (c_layRow l g h b (upd v 3 (nI 0)) 0 f (b 36) 16 mx 0 nn rfl (by omega) (by omega) (by omega) hMxB) gX11_point_X11_layRow (by decide +kernel) rfl ⟨rfl, rfl⟩ ⟨Nat.le_of_ble_eq_true rfl, Nat.le_of_ble_eq_true rfl⟩ 11 0 rfl rfl [0, 1, 15] [2, 3, 4, 5, 6, 7, 8, 9, 10, 11, 12, 13, 14, 16] 17 rfl (by decide) (fun jj : (Nat → Int32) => [oB h 11 (mO b (upd v 3 (nI (0 + nn)))), bA g (b 2) 1400 jj, bA g (b 4) 32 dg, iA g (b 5) 64 w0, iA g (b 6) 8 S0, iA g (b 7) 8 fs, iA g (b 8) 64 rt, lA g (b 9) 25 A0, lA g (b 10) 25 T0, lA g (b 11) 5 U0, iA g (b 12) 25 tn, bA g (b 23) 48 sd, bA g (b 0) 600 tp, bA g (b 32) 16 ro, bA g (b 34) 32 pf, bA g (b 36) 16 mx, iA g (b 37) 8 xf]) (fun _ => rfl) (by decide) [h, (b 2), (b 4), (b 5), (b 6), (b 7), (b 8), (b 9), (b 10), (b 11), (b 12), (b 23), (b 0), (b 32), (b 34), (b 36), (b 37)] rfl (fun _ => rfl) (fun _ => rfl) [bA g (b 4) 32 dg, iA g (b 5) 64 w0, iA g (b 6) 8 S0, iA g (b 7) 8 fs, iA g (b 8) 64 rt, lA g (b 9) 25 A0, lA g (b 10) 25 T0, lA g (b 11) 5 U0, iA g (b 12) 25 tn, bA g (b 23) 48 sd, bA g (b 0) 600 tp, bA g (b 32) 16 ro, bA g (b 34) 32 pf, iA g (b 37) 8 xf] rfl (fun _ => rfl) rfl [] rfl (Nat.le_of_ble_eq_true rfl) ⟨Nat.le_refl _, Nat.le_refl _⟩ dX11_point_12 ?_
  intro F1 hF1
  try dsimp only at hF1
  refine j_w [oB h 11 (mO b (upd v 3 (nI (0 + nn)))), bA g (b 2) 1400 F1, bA g (b 4) 32 dg, iA g (b 5) 64 w0, iA g (b 6) 8 S0, iA g (b 7) 8 fs, iA g (b 8) 64 rt, lA g (b 9) 25 A0, lA g (b 10) 25 T0, lA g (b 11) 5 U0, iA g (b 12) 25 tn, bA g (b 23) 48 sd, bA g (b 0) 600 tp, bA g (b 32) 16 ro, bA g (b 34) 32 pf, bA g (b 36) 16 mx, iA g (b 37) 8 xf] rfl ?_
  refine j_st [] rfl ?_
  refine j_aload_n hX 0 dX11_point_15 rfl ?_
  refine j_iconst hX (2) dX11_point_16 (by decide) ?_
  refine j_callV2 hX 1 (c_laySeed l g h b (upd v 3 (nI (0 + nn))) (0 + nn) F1 sd nn 2 rfl hv16 (by omega) (by omega) (by omega) hB) gX11_point_X11_laySeed (by decide +kernel) rfl ⟨rfl, rfl⟩ ⟨Nat.le_of_ble_eq_true rfl, Nat.le_of_ble_eq_true rfl⟩ 11 0 rfl rfl [0, 1, 11] [2, 3, 4, 5, 6, 7, 8, 9, 10, 12, 13, 14, 15, 16] 17 rfl (by decide) (fun jj : (Nat → Int32) => [oB h 11 (mO b (upd v 3 (nI ((0 + nn) + nn)))), bA g (b 2) 1400 jj, bA g (b 4) 32 dg, iA g (b 5) 64 w0, iA g (b 6) 8 S0, iA g (b 7) 8 fs, iA g (b 8) 64 rt, lA g (b 9) 25 A0, lA g (b 10) 25 T0, lA g (b 11) 5 U0, iA g (b 12) 25 tn, bA g (b 23) 48 sd, bA g (b 0) 600 tp, bA g (b 32) 16 ro, bA g (b 34) 32 pf, bA g (b 36) 16 mx, iA g (b 37) 8 xf]) (fun _ => rfl) (by decide) [h, (b 2), (b 4), (b 5), (b 6), (b 7), (b 8), (b 9), (b 10), (b 11), (b 12), (b 23), (b 0), (b 32), (b 34), (b 36), (b 37)] rfl (fun _ => rfl) (fun _ => rfl) [bA g (b 4) 32 dg, iA g (b 5) 64 w0, iA g (b 6) 8 S0, iA g (b 7) 8 fs, iA g (b 8) 64 rt, lA g (b 9) 25 A0, lA g (b 10) 25 T0, lA g (b 11) 5 U0, iA g (b 12) 25 tn, bA g (b 0) 600 tp, bA g (b 32) 16 ro, bA g (b 34) 32 pf, bA g (b 36) 16 mx, iA g (b 37) 8 xf] rfl (fun _ => rfl) rfl [] rfl (Nat.le_of_ble_eq_true rfl) ⟨Nat.le_refl _, Nat.le_refl _⟩ dX11_point_17 ?_
  intro F2 hF2
  try dsimp only at hF2
  refine j_w [oB h 11 (mO b (upd v 3 (nI ((0 + nn) + nn)))), bA g (b 2) 1400 F2, bA g (b 4) 32 dg, iA g (b 5) 64 w0, iA g (b 6) 8 S0, iA g (b 7) 8 fs, iA g (b 8) 64 rt, lA g (b 9) 25 A0, lA g (b 10) 25 T0, lA g (b 11) 5 U0, iA g (b 12) 25 tn, bA g (b 23) 48 sd, bA g (b 0) 600 tp, bA g (b 32) 16 ro, bA g (b 34) 32 pf, bA g (b 36) 16 mx, iA g (b 37) 8 xf] rfl ?_
  refine j_st [] rfl ?_
  refine j_pc 20 rfl ?_
  refine j_aload_n hX 0 dX11_point_20 rfl ?_
  refine j_aload_n hX 0 dX11_point_21 rfl ?_
  refine j_get hX in11 11 0 32 (v := .ref (b 32)) rfl rfl (by decide) (List.mem_of_getElem? (i := 3) rfl) rfl rfl dX11_point_22 ?_
  refine j_iconst hX (0) dX11_point_25 (by decide) ?_
  refine j_aload_n hX 0 dX11_point_26 rfl ?_
  refine j_gete hX (nI nn) in11 11 0 16 rfl rfl (by decide) (List.mem_of_getElem? (i := 2) rfl) rfl rfl hv16 dX11_point_27 ?_
  refine j_callV2 hX 3 (c_layRow l g h b (upd v 3 (nI ((0 + nn) + nn))) ((0 + nn) + nn) F2 (b 32) 16 ro 0 nn rfl (by omega) (by omega) (by omega) hRoB) gX11_point_X11_layRow (by decide +kernel) rfl ⟨rfl, rfl⟩ ⟨Nat.le_of_ble_eq_true rfl, Nat.le_of_ble_eq_true rfl⟩ 11 0 rfl rfl [0, 1, 13] [2, 3, 4, 5, 6, 7, 8, 9, 10, 11, 12, 14, 15, 16] 17 rfl (by decide) (fun jj : (Nat → Int32) => [oB h 11 (mO b (upd v 3 (nI (((0 + nn) + nn) + nn)))), bA g (b 2) 1400 jj, bA g (b 4) 32 dg, iA g (b 5) 64 w0, iA g (b 6) 8 S0, iA g (b 7) 8 fs, iA g (b 8) 64 rt, lA g (b 9) 25 A0, lA g (b 10) 25 T0, lA g (b 11) 5 U0, iA g (b 12) 25 tn, bA g (b 23) 48 sd, bA g (b 0) 600 tp, bA g (b 32) 16 ro, bA g (b 34) 32 pf, bA g (b 36) 16 mx, iA g (b 37) 8 xf]) (fun _ => rfl) (by decide) [h, (b 2), (b 4), (b 5), (b 6), (b 7), (b 8), (b 9), (b 10), (b 11), (b 12), (b 23), (b 0), (b 32), (b 34), (b 36), (b 37)] rfl (fun _ => rfl) (fun _ => rfl) [bA g (b 4) 32 dg, iA g (b 5) 64 w0, iA g (b 6) 8 S0, iA g (b 7) 8 fs, iA g (b 8) 64 rt, lA g (b 9) 25 A0, lA g (b 10) 25 T0, lA g (b 11) 5 U0, iA g (b 12) 25 tn, bA g (b 23) 48 sd, bA g (b 0) 600 tp, bA g (b 34) 32 pf, bA g (b 36) 16 mx, iA g (b 37) 8 xf] rfl (fun _ => rfl) rfl [] rfl (Nat.le_of_ble_eq_true rfl) ⟨Nat.le_refl _, Nat.le_refl _⟩ dX11_point_30 ?_
  intro F3 hF3
  try dsimp only at hF3
  refine j_w [oB h 11 (mO b (upd v 3 (nI (((0 + nn) + nn) + nn)))), bA g (b 2) 1400 F3, bA g (b 4) 32 dg, iA g (b 5) 64 w0, iA g (b 6) 8 S0, iA g (b 7) 8 fs, iA g (b 8) 64 rt, lA g (b 9) 25 A0, lA g (b 10) 25 T0, lA g (b 11) 5 U0, iA g (b 12) 25 tn, bA g (b 23) 48 sd, bA g (b 0) 600 tp, bA g (b 32) 16 ro, bA g (b 34) 32 pf, bA g (b 36) 16 mx, iA g (b 37) 8 xf] rfl ?_
  refine j_st [] rfl ?_
  refine j_aload_n hX 0 dX11_point_33 rfl ?_
  refine j_pc 34 rfl ?_
  refine j_callV2 hX 0 (c_layTape l g h b (upd v 3 (nI (((0 + nn) + nn) + nn))) (((0 + nn) + nn) + nn) F3 tp ntp rfl hv1 (by omega) (by omega) hTpB) gX11_point_X11_layTape (by decide +kernel) rfl ⟨rfl, rfl⟩ ⟨Nat.le_of_ble_eq_true rfl, Nat.le_of_ble_eq_true rfl⟩ 11 0 rfl rfl [0, 1, 12] [2, 3, 4, 5, 6, 7, 8, 9, 10, 11, 13, 14, 15, 16] 17 rfl (by decide) (fun jj : (Nat → Int32) => [oB h 11 (mO b (upd v 3 (nI ((((0 + nn) + nn) + nn) + ntp)))), bA g (b 2) 1400 jj, bA g (b 4) 32 dg, iA g (b 5) 64 w0, iA g (b 6) 8 S0, iA g (b 7) 8 fs, iA g (b 8) 64 rt, lA g (b 9) 25 A0, lA g (b 10) 25 T0, lA g (b 11) 5 U0, iA g (b 12) 25 tn, bA g (b 23) 48 sd, bA g (b 0) 600 tp, bA g (b 32) 16 ro, bA g (b 34) 32 pf, bA g (b 36) 16 mx, iA g (b 37) 8 xf]) (fun _ => rfl) (by decide) [h, (b 2), (b 4), (b 5), (b 6), (b 7), (b 8), (b 9), (b 10), (b 11), (b 12), (b 23), (b 0), (b 32), (b 34), (b 36), (b 37)] rfl (fun _ => rfl) (fun _ => rfl) [bA g (b 4) 32 dg, iA g (b 5) 64 w0, iA g (b 6) 8 S0, iA g (b 7) 8 fs, iA g (b 8) 64 rt, lA g (b 9) 25 A0, lA g (b 10) 25 T0, lA g (b 11) 5 U0, iA g (b 12) 25 tn, bA g (b 23) 48 sd, bA g (b 32) 16 ro, bA g (b 34) 32 pf, bA g (b 36) 16 mx, iA g (b 37) 8 xf] rfl (fun _ => rfl) rfl [] rfl (Nat.le_of_ble_eq_true rfl) ⟨Nat.le_refl _, Nat.le_refl _⟩ dX11_point_34 ?_
  intro F4 hF4
  try dsimp only at hF4
  refine j_w [oB h 11 (mO b (upd v 3 (nI ((((0 + nn) + nn) + nn) + ntp)))), bA g (b 2) 1400 F4, bA g (b 4) 32 dg, iA g (b 5) 64 w0, iA g (b 6) 8 S0, iA g (b 7) 8 fs, iA g (b 8) 64 rt, lA g (b 9) 25 A0, lA g (b 10) 25 T0, lA g (b 11) 5 U0, iA g (b 12) 25 tn, bA g (b 23) 48 sd, bA g (b 0) 600 tp, bA g (b 32) 16 ro, bA g (b 34) 32 pf, bA g (b 36) 16 mx, iA g (b 37) 8 xf] rfl ?_
  refine j_st [] rfl ?_
  refine j_aload_n hX 0 dX11_point_37 rfl ?_
  refine j_aload_n hX 0 dX11_point_38 rfl ?_
  refine j_gete hX (nI fm) in11 11 0 15 rfl rfl (by decide) (List.mem_of_getElem? (i := 4) rfl) rfl rfl hv15 dX11_point_39 ?_
  refine j_callV2 hX 1 (c_hashLaid l g h b (upd v 3 (nI ((((0 + nn) + nn) + nn) + ntp))) ((((0 + nn) + nn) + nn) + ntp) F4 dg w0 S0 fs rt A0 T0 U0 tn fm rfl (by omega) hfs hrt htn (by omega)) gX11_point_X11_hashLaid (by decide +kernel) rfl ⟨rfl, rfl⟩ ⟨Nat.le_of_ble_eq_true rfl, Nat.le_of_ble_eq_true rfl⟩ 11 0 rfl rfl [0, 1, 2, 3, 4, 5, 6, 7, 8, 9, 10] [11, 12, 13, 14, 15, 16] 17 rfl (by decide) (fun jj : (Nat → Int32) × (Nat → Int32) × (Nat → Int64) × (Nat → Int64) × (Nat → Int64) × Nat × (Nat → Int32) × (Nat → Int32) => [oB h 11 (mO b (upd v 3 (nI jj.2.2.2.2.2.1))), bA g (b 2) 1400 jj.2.2.2.2.2.2.1, bA g (b 4) 32 jj.2.2.2.2.2.2.2, iA g (b 5) 64 jj.1, iA g (b 6) 8 jj.2.1, iA g (b 7) 8 fs, iA g (b 8) 64 rt, lA g (b 9) 25 jj.2.2.1, lA g (b 10) 25 jj.2.2.2.1, lA g (b 11) 5 jj.2.2.2.2.1, iA g (b 12) 25 tn, bA g (b 23) 48 sd, bA g (b 0) 600 tp, bA g (b 32) 16 ro, bA g (b 34) 32 pf, bA g (b 36) 16 mx, iA g (b 37) 8 xf]) (fun _ => rfl) (by decide) [h, (b 2), (b 4), (b 5), (b 6), (b 7), (b 8), (b 9), (b 10), (b 11), (b 12), (b 23), (b 0), (b 32), (b 34), (b 36), (b 37)] rfl (fun _ => rfl) (fun _ => rfl) [bA g (b 23) 48 sd, bA g (b 0) 600 tp, bA g (b 32) 16 ro, bA g (b 34) 32 pf, bA g (b 36) 16 mx, iA g (b 37) 8 xf] rfl (fun _ => rfl) rfl [] rfl (Nat.le_of_ble_eq_true rfl) ⟨Nat.le_refl _, Nat.le_refl _⟩ dX11_point_42 ?_
  rintro ⟨w5, S5, A5, T5, U5, nl5, G5, FO5⟩ hW
  try dsimp only at hW
  refine j_w [oB h 11 (mO b (upd v 3 (nI nl5))), bA g (b 2) 1400 G5, bA g (b 4) 32 FO5, iA g (b 5) 64 w5, iA g (b 6) 8 S5, iA g (b 7) 8 fs, iA g (b 8) 64 rt, lA g (b 9) 25 A5, lA g (b 10) 25 T5, lA g (b 11) 5 U5, iA g (b 12) 25 tn, bA g (b 23) 48 sd, bA g (b 0) 600 tp, bA g (b 32) 16 ro, bA g (b 34) 32 pf, bA g (b 36) 16 mx, iA g (b 37) 8 xf] rfl ?_
  refine j_st [] rfl ?_
  rw [hF4, hF3, hF2, hF1, putL_app' (by first | (simp only [List.length_append, mskL_length, slice_length, HASH0_length, Zl_length]; omega) | simp only [List.length_append, mskL_length, slice_length, HASH0_length, Zl_length]), putL_app' (by first | (simp only [List.length_append, mskL_length, slice_length, HASH0_length, Zl_length]; omega) | simp only [List.length_append, mskL_length, slice_length, HASH0_length, Zl_length]), putL_app' (by first | (simp only [List.length_append, mskL_length, slice_length, HASH0_length, Zl_length]; omega) | simp only [List.length_append, mskL_length, slice_length, HASH0_length, Zl_length]), slice_put (by first | (simp only [List.length_append, mskL_length, slice_length, HASH0_length, Zl_length]; omega) | simp only [List.length_append, mskL_length, slice_length, HASH0_length, Zl_length]), ← List.append_assoc] at hW
  by_cases h0 : fm = 0
  · skip
    refine j_aload_n hX 0 dX11_point_45 rfl ?_
    refine j_gete hX (nI fm) in11 11 0 15 rfl rfl (by decide) (List.mem_of_getElem? (i := 4) rfl) rfl rfl hv15 dX11_point_46 ?_
    refine j_if_neN hX fm 120 dX11_point_49 (by decide) (by omega) (fun b_49 => absurd b_49 (by omega)) (fun b_49 => ?_)
    refine j_pc 52 rfl ?_
    refine j_iconst hX (0) dX11_point_52 (by decide) ?_
    refine j_st [.int (nI 0)] rfl ?_
    refine j_istore_n hX 2 [(2, .int (nI 0)), (0, .ref h), (1, .ref (b 36))] dX11_point_53 rfl (by decide) rfl ?_
    have lp_10 : ∀ (n_11 : Nat) (i : Nat) (P1 : Nat → Int32), (32 - i < n_11) → (i ≤ 32) → (P1 = putL pf 0 ((HH fm ((slice mx 0 nn ++ slice sd 32 nn) ++ (slice ro 0 nn ++ (slice tp 0 ntp)))).take i)) → J p l e ({ frames := 4, cells := 0, slots := 0, locals := 97 } : Room) s m ([.ref h, .ref (b 36)] : List Value).toArray below meth c g A 5 Q 0 0 [oB h 11 (mO b (upd v 3 (nI nl5))), bA g (b 2) 1400 G5, bA g (b 4) 32 FO5, iA g (b 5) 64 w5, iA g (b 6) 8 S5, iA g (b 7) 8 fs, iA g (b 8) 64 rt, lA g (b 9) 25 A5, lA g (b 10) 25 T5, lA g (b 11) 5 U5, iA g (b 12) 25 tn, bA g (b 23) 48 sd, bA g (b 0) 600 tp, bA g (b 32) 16 ro, bA g (b 34) 32 P1, bA g (b 36) 16 mx, iA g (b 37) 8 xf] [(0, .ref h), (1, .ref (b 36)), (2, .int (nI i))] 54 [] := by
      intro n_11
      induction n_11 with
      | zero => intro i P1 hm; exact absurd hm (Nat.not_lt_zero _)
      | succ n_11 ih_12 =>
        intro i P1 hm hi hO
        refine j_iload_n hX 2 dX11_point_54 rfl ?_
        refine j_bipush hX (32) dX11_point_55 (by decide) ?_
        refine j_icmp_geN hX i 32 78 dX11_point_57 (by decide) (by omega) (by omega) (fun b_57 => ?_) (fun b_57 => ?_)
        · skip
          have hO9 : P1 = putL pf 0 (HASH0 ((slice mx 0 nn ++ slice sd 32 nn) ++ (slice ro 0 nn ++ (slice tp 0 ntp)))) := by rw [hO, show i = 32 by omega, List.take_of_length_le (by rw [HH_length]; omega), HH, if_pos h0]
          have hPF : isB P1 := by rw [hO9]; exact putL_B hPB (HASH0_B _)
          refine j_aload_n hX 0 dX11_point_78 rfl ?_
          refine j_iconst hX (0) dX11_point_79 (by decide) ?_
          refine j_st [.int (nI 0), .ref h] rfl ?_
          refine j_put hX (v := .int (nI 0)) (ty := .int) in11 tyX11 tyX11_ok nmX11 11 0 3 rfl rfl (by decide) (List.mem_of_getElem? (i := 1) rfl) rfl rfl rfl rfl rfl (Nat.le_of_ble_eq_true rfl) [oB h 11 (mO b (upd v 3 (nI 0))), bA g (b 2) 1400 G5, bA g (b 4) 32 FO5, iA g (b 5) 64 w5, iA g (b 6) 8 S5, iA g (b 7) 8 fs, iA g (b 8) 64 rt, lA g (b 9) 25 A5, lA g (b 10) 25 T5, lA g (b 11) 5 U5, iA g (b 12) 25 tn, bA g (b 23) 48 sd, bA g (b 0) 600 tp, bA g (b 32) 16 ro, bA g (b 34) 32 P1, bA g (b 36) 16 mx, iA g (b 37) 8 xf] rfl dX11_point_80 ?_
          refine j_pc 83 rfl ?_
          refine j_aload_n hX 0 dX11_point_83 rfl ?_
          refine j_aload_n hX 1 dX11_point_84 rfl ?_
          refine j_iconst hX (0) dX11_point_85 (by decide) ?_
          refine j_aload_n hX 0 dX11_point_86 rfl ?_
          refine j_gete hX (nI nn) in11 11 0 16 rfl rfl (by decide) (List.mem_of_getElem? (i := 2) rfl) rfl rfl hv16 dX11_point_87 ?_
          refine j_callV2 hX 3 (c_layRow l g h b (upd v 3 (nI 0)) 0 G5 (b 36) 16 mx 0 nn rfl (by omega) (by omega) (by omega) hMxB) gX11_point_X11_layRow (by decide +kernel) rfl ⟨rfl, rfl⟩ ⟨Nat.le_of_ble_eq_true rfl, Nat.le_of_ble_eq_true rfl⟩ 11 0 rfl rfl [0, 1, 15] [2, 3, 4, 5, 6, 7, 8, 9, 10, 11, 12, 13, 14, 16] 17 rfl (by decide) (fun jj : (Nat → Int32) => [oB h 11 (mO b (upd v 3 (nI (0 + nn)))), bA g (b 2) 1400 jj, bA g (b 4) 32 FO5, iA g (b 5) 64 w5, iA g (b 6) 8 S5, iA g (b 7) 8 fs, iA g (b 8) 64 rt, lA g (b 9) 25 A5, lA g (b 10) 25 T5, lA g (b 11) 5 U5, iA g (b 12) 25 tn, bA g (b 23) 48 sd, bA g (b 0) 600 tp, bA g (b 32) 16 ro, bA g (b 34) 32 P1, bA g (b 36) 16 mx, iA g (b 37) 8 xf]) (fun _ => rfl) (by decide) [h, (b 2), (b 4), (b 5), (b 6), (b 7), (b 8), (b 9), (b 10), (b 11), (b 12), (b 23), (b 0), (b 32), (b 34), (b 36), (b 37)] rfl (fun _ => rfl) (fun _ => rfl) [bA g (b 4) 32 FO5, iA g (b 5) 64 w5, iA g (b 6) 8 S5, iA g (b 7) 8 fs, iA g (b 8) 64 rt, lA g (b 9) 25 A5, lA g (b 10) 25 T5, lA g (b 11) 5 U5, iA g (b 12) 25 tn, bA g (b 23) 48 sd, bA g (b 0) 600 tp, bA g (b 32) 16 ro, bA g (b 34) 32 P1, iA g (b 37) 8 xf] rfl (fun _ => rfl) rfl [] rfl (Nat.le_of_ble_eq_true rfl) ⟨Nat.le_refl _, Nat.le_refl _⟩ dX11_point_90 ?_
          intro F5 hF5
          try dsimp only at hF5
          refine j_w [oB h 11 (mO b (upd v 3 (nI (0 + nn)))), bA g (b 2) 1400 F5, bA g (b 4) 32 FO5, iA g (b 5) 64 w5, iA g (b 6) 8 S5, iA g (b 7) 8 fs, iA g (b 8) 64 rt, lA g (b 9) 25 A5, lA g (b 10) 25 T5, lA g (b 11) 5 U5, iA g (b 12) 25 tn, bA g (b 23) 48 sd, bA g (b 0) 600 tp, bA g (b 32) 16 ro, bA g (b 34) 32 P1, bA g (b 36) 16 mx, iA g (b 37) 8 xf] rfl ?_
          refine j_st [] rfl ?_
          refine j_aload_n hX 0 dX11_point_93 rfl ?_
          refine j_iconst hX (2) dX11_point_94 (by decide) ?_
          refine j_pc 95 rfl ?_
          refine j_callV2 hX 1 (c_laySeed l g h b (upd v 3 (nI (0 + nn))) (0 + nn) F5 sd nn 2 rfl hv16 (by omega) (by omega) (by omega) hB) gX11_point_X11_laySeed (by decide +kernel) rfl ⟨rfl, rfl⟩ ⟨Nat.le_of_ble_eq_true rfl, Nat.le_of_ble_eq_true rfl⟩ 11 0 rfl rfl [0, 1, 11] [2, 3, 4, 5, 6, 7, 8, 9, 10, 12, 13, 14, 15, 16] 17 rfl (by decide) (fun jj : (Nat → Int32) => [oB h 11 (mO b (upd v 3 (nI ((0 + nn) + nn)))), bA g (b 2) 1400 jj, bA g (b 4) 32 FO5, iA g (b 5) 64 w5, iA g (b 6) 8 S5, iA g (b 7) 8 fs, iA g (b 8) 64 rt, lA g (b 9) 25 A5, lA g (b 10) 25 T5, lA g (b 11) 5 U5, iA g (b 12) 25 tn, bA g (b 23) 48 sd, bA g (b 0) 600 tp, bA g (b 32) 16 ro, bA g (b 34) 32 P1, bA g (b 36) 16 mx, iA g (b 37) 8 xf]) (fun _ => rfl) (by decide) [h, (b 2), (b 4), (b 5), (b 6), (b 7), (b 8), (b 9), (b 10), (b 11), (b 12), (b 23), (b 0), (b 32), (b 34), (b 36), (b 37)] rfl (fun _ => rfl) (fun _ => rfl) [bA g (b 4) 32 FO5, iA g (b 5) 64 w5, iA g (b 6) 8 S5, iA g (b 7) 8 fs, iA g (b 8) 64 rt, lA g (b 9) 25 A5, lA g (b 10) 25 T5, lA g (b 11) 5 U5, iA g (b 12) 25 tn, bA g (b 0) 600 tp, bA g (b 32) 16 ro, bA g (b 34) 32 P1, bA g (b 36) 16 mx, iA g (b 37) 8 xf] rfl (fun _ => rfl) rfl [] rfl (Nat.le_of_ble_eq_true rfl) ⟨Nat.le_refl _, Nat.le_refl _⟩ dX11_point_95 ?_
          intro F6 hF6
          try dsimp only at hF6
          refine j_w [oB h 11 (mO b (upd v 3 (nI ((0 + nn) + nn)))), bA g (b 2) 1400 F6, bA g (b 4) 32 FO5, iA g (b 5) 64 w5, iA g (b 6) 8 S5, iA g (b 7) 8 fs, iA g (b 8) 64 rt, lA g (b 9) 25 A5, lA g (b 10) 25 T5, lA g (b 11) 5 U5, iA g (b 12) 25 tn, bA g (b 23) 48 sd, bA g (b 0) 600 tp, bA g (b 32) 16 ro, bA g (b 34) 32 P1, bA g (b 36) 16 mx, iA g (b 37) 8 xf] rfl ?_
          refine j_st [] rfl ?_
          refine j_aload_n hX 0 dX11_point_98 rfl ?_
          refine j_aload_n hX 0 dX11_point_99 rfl ?_
          refine j_get hX in11 11 0 34 (v := .ref (b 34)) rfl rfl (by decide) (List.mem_of_getElem? (i := 5) rfl) rfl rfl dX11_point_100 ?_
          refine j_iconst hX (0) dX11_point_103 (by decide) ?_
          refine j_bipush hX (32) dX11_point_104 (by decide) ?_
          refine j_callV2 hX 3 (c_layRow l g h b (upd v 3 (nI ((0 + nn) + nn))) ((0 + nn) + nn) F6 (b 34) 32 P1 0 32 rfl (by omega) (by omega) (by omega) hPF) gX11_point_X11_layRow (by decide +kernel) rfl ⟨rfl, rfl⟩ ⟨Nat.le_of_ble_eq_true rfl, Nat.le_of_ble_eq_true rfl⟩ 11 0 rfl rfl [0, 1, 14] [2, 3, 4, 5, 6, 7, 8, 9, 10, 11, 12, 13, 15, 16] 17 rfl (by decide) (fun jj : (Nat → Int32) => [oB h 11 (mO b (upd v 3 (nI (((0 + nn) + nn) + 32)))), bA g (b 2) 1400 jj, bA g (b 4) 32 FO5, iA g (b 5) 64 w5, iA g (b 6) 8 S5, iA g (b 7) 8 fs, iA g (b 8) 64 rt, lA g (b 9) 25 A5, lA g (b 10) 25 T5, lA g (b 11) 5 U5, iA g (b 12) 25 tn, bA g (b 23) 48 sd, bA g (b 0) 600 tp, bA g (b 32) 16 ro, bA g (b 34) 32 P1, bA g (b 36) 16 mx, iA g (b 37) 8 xf]) (fun _ => rfl) (by decide) [h, (b 2), (b 4), (b 5), (b 6), (b 7), (b 8), (b 9), (b 10), (b 11), (b 12), (b 23), (b 0), (b 32), (b 34), (b 36), (b 37)] rfl (fun _ => rfl) (fun _ => rfl) [bA g (b 4) 32 FO5, iA g (b 5) 64 w5, iA g (b 6) 8 S5, iA g (b 7) 8 fs, iA g (b 8) 64 rt, lA g (b 9) 25 A5, lA g (b 10) 25 T5, lA g (b 11) 5 U5, iA g (b 12) 25 tn, bA g (b 23) 48 sd, bA g (b 0) 600 tp, bA g (b 32) 16 ro, bA g (b 36) 16 mx, iA g (b 37) 8 xf] rfl (fun _ => rfl) rfl [] rfl (Nat.le_of_ble_eq_true rfl) ⟨Nat.le_refl _, Nat.le_refl _⟩ dX11_point_106 ?_
          intro F7 hF7
          try dsimp only at hF7
          refine j_w [oB h 11 (mO b (upd v 3 (nI (((0 + nn) + nn) + 32)))), bA g (b 2) 1400 F7, bA g (b 4) 32 FO5, iA g (b 5) 64 w5, iA g (b 6) 8 S5, iA g (b 7) 8 fs, iA g (b 8) 64 rt, lA g (b 9) 25 A5, lA g (b 10) 25 T5, lA g (b 11) 5 U5, iA g (b 12) 25 tn, bA g (b 23) 48 sd, bA g (b 0) 600 tp, bA g (b 32) 16 ro, bA g (b 34) 32 P1, bA g (b 36) 16 mx, iA g (b 37) 8 xf] rfl ?_
          refine j_st [] rfl ?_
          refine j_aload_n hX 0 dX11_point_109 rfl ?_
          refine j_pc 110 rfl ?_
          refine j_lconst hX 0 dX11_point_110 rfl ?_
          refine j_iconst hX (4) dX11_point_111 (by decide) ?_
          refine j_callV2 hX 2 (c_mlayNumber l g h b (upd v 3 (nI (((0 + nn) + nn) + 32))) (((0 + nn) + nn) + 32) F7 (0 : Int64) 4 rfl (by omega)) gX11_point_X11_layNumber (by decide +kernel) rfl ⟨rfl, rfl⟩ ⟨Nat.le_of_ble_eq_true rfl, Nat.le_of_ble_eq_true rfl⟩ 11 0 rfl rfl [0, 1] [2, 3, 4, 5, 6, 7, 8, 9, 10, 11, 12, 13, 14, 15, 16] 17 rfl (by decide) (fun jj : (Nat → Int32) => [oB h 11 (mO b (upd v 3 (nI ((((0 + nn) + nn) + 32) + 4)))), bA g (b 2) 1400 jj, bA g (b 4) 32 FO5, iA g (b 5) 64 w5, iA g (b 6) 8 S5, iA g (b 7) 8 fs, iA g (b 8) 64 rt, lA g (b 9) 25 A5, lA g (b 10) 25 T5, lA g (b 11) 5 U5, iA g (b 12) 25 tn, bA g (b 23) 48 sd, bA g (b 0) 600 tp, bA g (b 32) 16 ro, bA g (b 34) 32 P1, bA g (b 36) 16 mx, iA g (b 37) 8 xf]) (fun _ => rfl) (by decide) [h, (b 2), (b 4), (b 5), (b 6), (b 7), (b 8), (b 9), (b 10), (b 11), (b 12), (b 23), (b 0), (b 32), (b 34), (b 36), (b 37)] rfl (fun _ => rfl) (fun _ => rfl) [bA g (b 4) 32 FO5, iA g (b 5) 64 w5, iA g (b 6) 8 S5, iA g (b 7) 8 fs, iA g (b 8) 64 rt, lA g (b 9) 25 A5, lA g (b 10) 25 T5, lA g (b 11) 5 U5, iA g (b 12) 25 tn, bA g (b 23) 48 sd, bA g (b 0) 600 tp, bA g (b 32) 16 ro, bA g (b 34) 32 P1, bA g (b 36) 16 mx, iA g (b 37) 8 xf] rfl (fun _ => rfl) rfl [] rfl (Nat.le_of_ble_eq_true rfl) ⟨Nat.le_refl _, Nat.le_refl _⟩ dX11_point_112 ?_
          intro F8 hF8
          try dsimp only at hF8
          refine j_w [oB h 11 (mO b (upd v 3 (nI ((((0 + nn) + nn) + 32) + 4)))), bA g (b 2) 1400 F8, bA g (b 4) 32 FO5, iA g (b 5) 64 w5, iA g (b 6) 8 S5, iA g (b 7) 8 fs, iA g (b 8) 64 rt, lA g (b 9) 25 A5, lA g (b 10) 25 T5, lA g (b 11) 5 U5, iA g (b 12) 25 tn, bA g (b 23) 48 sd, bA g (b 0) 600 tp, bA g (b 32) 16 ro, bA g (b 34) 32 P1, bA g (b 36) 16 mx, iA g (b 37) 8 xf] rfl ?_
          refine j_st [] rfl ?_
          refine j_aload_n hX 0 dX11_point_115 rfl ?_
          refine j_iconst hX (0) dX11_point_116 (by decide) ?_
          refine j_callV2 hX 1 (c_hashLaid l g h b (upd v 3 (nI ((((0 + nn) + nn) + 32) + 4))) ((((0 + nn) + nn) + 32) + 4) F8 FO5 w5 S5 fs rt A5 T5 U5 tn 0 rfl (by omega) hfs hrt htn (by omega)) gX11_point_X11_hashLaid (by decide +kernel) rfl ⟨rfl, rfl⟩ ⟨Nat.le_of_ble_eq_true rfl, Nat.le_of_ble_eq_true rfl⟩ 11 0 rfl rfl [0, 1, 2, 3, 4, 5, 6, 7, 8, 9, 10] [11, 12, 13, 14, 15, 16] 17 rfl (by decide) (fun jj : (Nat → Int32) × (Nat → Int32) × (Nat → Int64) × (Nat → Int64) × (Nat → Int64) × Nat × (Nat → Int32) × (Nat → Int32) => [oB h 11 (mO b (upd v 3 (nI jj.2.2.2.2.2.1))), bA g (b 2) 1400 jj.2.2.2.2.2.2.1, bA g (b 4) 32 jj.2.2.2.2.2.2.2, iA g (b 5) 64 jj.1, iA g (b 6) 8 jj.2.1, iA g (b 7) 8 fs, iA g (b 8) 64 rt, lA g (b 9) 25 jj.2.2.1, lA g (b 10) 25 jj.2.2.2.1, lA g (b 11) 5 jj.2.2.2.2.1, iA g (b 12) 25 tn, bA g (b 23) 48 sd, bA g (b 0) 600 tp, bA g (b 32) 16 ro, bA g (b 34) 32 P1, bA g (b 36) 16 mx, iA g (b 37) 8 xf]) (fun _ => rfl) (by decide) [h, (b 2), (b 4), (b 5), (b 6), (b 7), (b 8), (b 9), (b 10), (b 11), (b 12), (b 23), (b 0), (b 32), (b 34), (b 36), (b 37)] rfl (fun _ => rfl) (fun _ => rfl) [bA g (b 23) 48 sd, bA g (b 0) 600 tp, bA g (b 32) 16 ro, bA g (b 34) 32 P1, bA g (b 36) 16 mx, iA g (b 37) 8 xf] rfl (fun _ => rfl) rfl [] rfl (Nat.le_of_ble_eq_true rfl) ⟨Nat.le_refl _, Nat.le_refl _⟩ dX11_point_117 ?_
          rintro ⟨w6, S6, A6, T6, U6, nl6, G6, FO6⟩ hV
          try dsimp only at hV
          refine j_w [oB h 11 (mO b (upd v 3 (nI nl6))), bA g (b 2) 1400 G6, bA g (b 4) 32 FO6, iA g (b 5) 64 w6, iA g (b 6) 8 S6, iA g (b 7) 8 fs, iA g (b 8) 64 rt, lA g (b 9) 25 A6, lA g (b 10) 25 T6, lA g (b 11) 5 U6, iA g (b 12) 25 tn, bA g (b 23) 48 sd, bA g (b 0) 600 tp, bA g (b 32) 16 ro, bA g (b 34) 32 P1, bA g (b 36) 16 mx, iA g (b 37) 8 xf] rfl ?_
          refine j_st [] rfl ?_
          rw [hF8, hF7, hF6, hF5, hO9, slice_put (by rw [HASH0_length]), putL_app' (by first | (simp only [List.length_append, mskL_length, slice_length, HASH0_length, Zl_length]; omega) | simp only [List.length_append, mskL_length, slice_length, HASH0_length, Zl_length]), putL_app' (by first | (simp only [List.length_append, mskL_length, slice_length, HASH0_length, Zl_length]; omega) | simp only [List.length_append, mskL_length, slice_length, HASH0_length, Zl_length]), putL_app' (by first | (simp only [List.length_append, mskL_length, slice_length, HASH0_length, Zl_length]; omega) | simp only [List.length_append, mskL_length, slice_length, HASH0_length, Zl_length]), slice_put (by first | (simp only [List.length_append, mskL_length, slice_length, HASH0_length, Zl_length]; omega) | simp only [List.length_append, mskL_length, slice_length, HASH0_length, Zl_length]), Zl0_4, HH, if_pos rfl] at hV
          refine j_perm [(0, .ref h), (1, .ref (b 36))] [0, 1] rfl ?_
          exact jn_1 nl6 G6 FO6 w6 S6 A6 T6 U6 P1 hV.1 hPF (read_at (d := FO5) (by rw [hV.2, PNTS, if_pos h0]; simp only [List.append_assoc, Nat.reduceMul]) (PNTS_length _ _ _ _ _ _))
        · skip
          refine j_aload_n hX 0 dX11_point_60 rfl ?_
          refine j_get hX in11 11 0 34 (v := .ref (b 34)) rfl rfl (by decide) (List.mem_of_getElem? (i := 5) rfl) rfl rfl dX11_point_61 ?_
          refine j_pc 64 rfl ?_
          refine j_iload_n hX 2 dX11_point_64 rfl ?_
          refine j_aload_n hX 0 dX11_point_65 rfl ?_
          refine j_get hX in11 11 0 4 (v := .ref (b 4)) rfl rfl (by decide) (List.mem_of_getElem? (i := 6) rfl) rfl rfl dX11_point_66 ?_
          refine j_iload_n hX 2 dX11_point_69 rfl ?_
          refine j_baldN hX 2 i rfl (by omega) (by omega) dX11_point_70 ?_
          refine j_bastN hX 14 i rfl (by omega) (by omega) [oB h 11 (mO b (upd v 3 (nI nl5))), bA g (b 2) 1400 G5, bA g (b 4) 32 FO5, iA g (b 5) 64 w5, iA g (b 6) 8 S5, iA g (b 7) 8 fs, iA g (b 8) 64 rt, lA g (b 9) 25 A5, lA g (b 10) 25 T5, lA g (b 11) 5 U5, iA g (b 12) 25 tn, bA g (b 23) 48 sd, bA g (b 0) 600 tp, bA g (b 32) 16 ro, bA g (b 34) 32 (upd P1 i (i8 (FO5 i))), bA g (b 36) 16 mx, iA g (b 37) 8 xf] rfl dX11_point_71 ?_
          refine j_iincN hX i (i + 1) [(2, .int (nI (i + 1))), (0, .ref h), (1, .ref (b 36))] 2 dX11_point_72 rfl (nI_1 _) (by decide) rfl ?_
          refine j_goto hX 54 dX11_point_75 (by decide) ?_
          refine j_perm [(0, .ref h), (1, .ref (b 36)), (2, .int (nI (i + 1)))] [1, 2, 0] rfl ?_
          exact ih_12 (i + 1) (upd P1 i (i8 (FO5 i))) (by omega) (by omega) (take_put hO (by rw [HH_length]; omega) (by rw [put_read hW.2 (by rw [HH_length]; omega), getD_B (HH_B _ _)]))
    refine j_perm [(0, .ref h), (1, .ref (b 36)), (2, .int (nI 0))] [1, 2, 0] rfl ?_
    exact lp_10 _ 0 pf (Nat.lt_succ_self _) (by omega) (by rw [List.take_zero, putL_nil])
  · skip
    refine j_pc 45 rfl ?_
    refine j_aload_n hX 0 dX11_point_45 rfl ?_
    refine j_gete hX (nI fm) in11 11 0 15 rfl rfl (by decide) (List.mem_of_getElem? (i := 4) rfl) rfl rfl hv15 dX11_point_46 ?_
    refine j_if_neN hX fm 120 dX11_point_49 (by decide) (by omega) (fun b_49 => ?_) (fun b_49 => absurd b_49 (by omega))
    exact jn_1 nl5 G5 FO5 w5 S5 A5 T5 U5 pf hW.1 hPB (read_at (by rw [hW.2, HH, if_neg h0, PNTS, if_neg h0]) (PNTS_length _ _ _ _ _ _))

