theorem put_slice (f : Nat → Int32) (t n : Nat) : putL f t (slice f t n) = f := by
  rw [← cpy_put]
  funext j
  by_cases h : t ≤ j ∧ j < t + n
  · rw [pk_cpy_in h.1 h.2, show t + (j - t) = j by omega]
  · rw [pk_cpy_out (by omega)]
theorem putL_over {f : Nat → Int32} {t : Nat} {A B : List Int32} (h : A.length = B.length) : putL (putL f t A) t B = putL f t B := by
  funext j
  by_cases hj : t ≤ j ∧ j < t + B.length
  · obtain ⟨k, rfl⟩ : ∃ k, j = t + k := ⟨j - t, by omega⟩
    rw [putL_in (by omega), putL_in (by omega)]
  · rw [putL_out (by omega), putL_out (by omega), putL_out (by omega)]
theorem TT_length_of {fm n : Nat} (hn : n ≤ 32) {row : List Int32} {sd : Nat → Int32} {ly tr kd u v w : Nat} : ((HH fm (hd fm n sd ly tr kd u v w ++ row)).take n).length = n := TT_length hn _ _ _ _ _ _ _ _

set_option maxRecDepth 20000 in
theorem ggX11_begin_X11_laySeed : GoodIn wsX11_begin wsX11_laySeed := goodIn_r _ [9, 10, 11, 12, 13, 14, 8, 15, 16, 1, 21, 22, 23, 24, 25, 26, 27, 28, 29, 30, 31, 32, 33, 34, 35, 36, 37, 38, 39, 40, 41, 42, 43, 44, 45, 46, 47, 48, 49, 50, 51, 52, 53, 54, 55, 56, 57, 58, 59, 60, 61, 62, 63] rfl (by decide +kernel)
set_option maxRecDepth 20000 in
theorem gX11_begin_X11_laySeed : GoodIn wsX11_begin (wsV RX11 253 RX11 yX11_laySeed wsX11_laySeed) := goodIn_app (goodIn_of _ (by decide +kernel)) ggX11_begin_X11_laySeed
set_option maxRecDepth 20000 in
theorem ggX11_begin_X11_lay : GoodIn wsX11_begin wsX11_lay := goodIn_r _ [15, 16, 1, 21, 22, 23, 24, 25, 26, 27, 28, 29, 30, 31, 32, 33, 34, 35, 36, 37, 38, 39, 40, 41, 42, 43, 44, 45, 46, 47, 48, 49, 50, 51, 52, 53, 54, 55, 56, 57, 58, 59, 60, 61, 62, 63] rfl (by decide +kernel)
set_option maxRecDepth 20000 in
theorem gX11_begin_X11_lay : GoodIn wsX11_begin (wsV RX11 198 RX11 yX11_lay wsX11_lay) := goodIn_app (goodIn_of _ (by decide +kernel)) ggX11_begin_X11_lay
set_option maxRecDepth 20000 in
theorem ggX11_begin_X11_layNumber : GoodIn wsX11_begin wsX11_layNumber := goodIn_r _ [20, 12, 13, 14, 8, 15, 16, 1, 21, 22, 23, 24, 25, 26, 27, 28, 29, 30, 31, 32, 33, 34, 35, 36, 37, 38, 39, 40, 41, 42, 43, 44, 45, 46, 47, 48, 49, 50, 51, 52, 53, 54, 55, 56, 57, 58, 59, 60, 61, 62, 63] rfl (by decide +kernel)
set_option maxRecDepth 20000 in
theorem gX11_begin_X11_layNumber : GoodIn wsX11_begin (wsV RX11 208 RX11 yX11_layNumber wsX11_layNumber) := goodIn_app (goodIn_of _ (by decide +kernel)) ggX11_begin_X11_layNumber
theorem dX11_begin_0 : decode cX11_begin 0 = .ok (.aload_n 0, 1) := by decide +kernel
theorem dX11_begin_1 : decode cX11_begin 1 = .ok (.iconst 0, 1) := by decide +kernel
theorem dX11_begin_2 : decode cX11_begin 2 = .ok (.putfield 195, 3) := by decide +kernel
theorem dX11_begin_5 : decode cX11_begin 5 = .ok (.aload_n 0, 1) := by decide +kernel
theorem dX11_begin_6 : decode cX11_begin 6 = .ok (.iconst 2, 1) := by decide +kernel
theorem dX11_begin_7 : decode cX11_begin 7 = .ok (.invokevirtual 253, 3) := by decide +kernel
theorem dX11_begin_10 : decode cX11_begin 10 = .ok (.aload_n 0, 1) := by decide +kernel
theorem dX11_begin_11 : decode cX11_begin 11 = .ok (.getfield 162, 3) := by decide +kernel
theorem dX11_begin_14 : decode cX11_begin 14 = .ok (.ifCond .ne 20, 3) := by decide +kernel
theorem dX11_begin_17 : decode cX11_begin 17 = .ok (.aload_n 0, 1) := by decide +kernel
theorem dX11_begin_18 : decode cX11_begin 18 = .ok (.getfield 195, 3) := by decide +kernel
theorem dX11_begin_21 : decode cX11_begin 21 = .ok (.bipush 64, 2) := by decide +kernel
theorem dX11_begin_23 : decode cX11_begin 23 = .ok (.if_icmp .ge 11, 3) := by decide +kernel
theorem dX11_begin_26 : decode cX11_begin 26 = .ok (.aload_n 0, 1) := by decide +kernel
theorem dX11_begin_27 : decode cX11_begin 27 = .ok (.iconst 0, 1) := by decide +kernel
theorem dX11_begin_28 : decode cX11_begin 28 = .ok (.invokevirtual 198, 3) := by decide +kernel
theorem dX11_begin_31 : decode cX11_begin 31 = .ok (.goto (-14), 3) := by decide +kernel
theorem dX11_begin_34 : decode cX11_begin 34 = .ok (.aload_n 0, 1) := by decide +kernel
theorem dX11_begin_35 : decode cX11_begin 35 = .ok (.aload_n 0, 1) := by decide +kernel
theorem dX11_begin_36 : decode cX11_begin 36 = .ok (.getfield 256, 3) := by decide +kernel
theorem dX11_begin_39 : decode cX11_begin 39 = .ok (.i2l, 1) := by decide +kernel
theorem dX11_begin_40 : decode cX11_begin 40 = .ok (.aload_n 0, 1) := by decide +kernel
theorem dX11_begin_41 : decode cX11_begin 41 = .ok (.getfield 162, 3) := by decide +kernel
theorem dX11_begin_44 : decode cX11_begin 44 = .ok (.ifCond .ne 7, 3) := by decide +kernel
theorem dX11_begin_47 : decode cX11_begin 47 = .ok (.iconst 1, 1) := by decide +kernel
theorem dX11_begin_48 : decode cX11_begin 48 = .ok (.goto 4, 3) := by decide +kernel
theorem dX11_begin_51 : decode cX11_begin 51 = .ok (.iconst 4, 1) := by decide +kernel
theorem dX11_begin_52 : decode cX11_begin 52 = .ok (.invokevirtual 208, 3) := by decide +kernel
theorem dX11_begin_55 : decode cX11_begin 55 = .ok (.aload_n 0, 1) := by decide +kernel
theorem dX11_begin_56 : decode cX11_begin 56 = .ok (.aload_n 0, 1) := by decide +kernel
theorem dX11_begin_57 : decode cX11_begin 57 = .ok (.getfield 259, 3) := by decide +kernel
theorem dX11_begin_60 : decode cX11_begin 60 = .ok (.i2l, 1) := by decide +kernel
theorem dX11_begin_61 : decode cX11_begin 61 = .ok (.aload_n 0, 1) := by decide +kernel
theorem dX11_begin_62 : decode cX11_begin 62 = .ok (.getfield 162, 3) := by decide +kernel
theorem dX11_begin_65 : decode cX11_begin 65 = .ok (.ifCond .ne 8, 3) := by decide +kernel
theorem dX11_begin_68 : decode cX11_begin 68 = .ok (.bipush 8, 2) := by decide +kernel
theorem dX11_begin_70 : decode cX11_begin 70 = .ok (.goto 5, 3) := by decide +kernel
theorem dX11_begin_73 : decode cX11_begin 73 = .ok (.bipush 12, 2) := by decide +kernel
theorem dX11_begin_75 : decode cX11_begin 75 = .ok (.invokevirtual 208, 3) := by decide +kernel
theorem dX11_begin_78 : decode cX11_begin 78 = .ok (.aload_n 0, 1) := by decide +kernel
theorem dX11_begin_79 : decode cX11_begin 79 = .ok (.iload_n 1, 1) := by decide +kernel
theorem dX11_begin_80 : decode cX11_begin 80 = .ok (.i2l, 1) := by decide +kernel
theorem dX11_begin_81 : decode cX11_begin 81 = .ok (.aload_n 0, 1) := by decide +kernel
theorem dX11_begin_82 : decode cX11_begin 82 = .ok (.getfield 162, 3) := by decide +kernel
theorem dX11_begin_85 : decode cX11_begin 85 = .ok (.ifCond .ne 7, 3) := by decide +kernel
theorem dX11_begin_88 : decode cX11_begin 88 = .ok (.iconst 1, 1) := by decide +kernel
theorem dX11_begin_89 : decode cX11_begin 89 = .ok (.goto 4, 3) := by decide +kernel
theorem dX11_begin_92 : decode cX11_begin 92 = .ok (.iconst 4, 1) := by decide +kernel
theorem dX11_begin_93 : decode cX11_begin 93 = .ok (.invokevirtual 208, 3) := by decide +kernel
theorem dX11_begin_96 : decode cX11_begin 96 = .ok (.aload_n 0, 1) := by decide +kernel
theorem dX11_begin_97 : decode cX11_begin 97 = .ok (.iload_n 2, 1) := by decide +kernel
theorem dX11_begin_98 : decode cX11_begin 98 = .ok (.i2l, 1) := by decide +kernel
theorem dX11_begin_99 : decode cX11_begin 99 = .ok (.iconst 4, 1) := by decide +kernel
theorem dX11_begin_100 : decode cX11_begin 100 = .ok (.invokevirtual 208, 3) := by decide +kernel
theorem dX11_begin_103 : decode cX11_begin 103 = .ok (.aload_n 0, 1) := by decide +kernel
theorem dX11_begin_104 : decode cX11_begin 104 = .ok (.iload_n 3, 1) := by decide +kernel
theorem dX11_begin_105 : decode cX11_begin 105 = .ok (.i2l, 1) := by decide +kernel
theorem dX11_begin_106 : decode cX11_begin 106 = .ok (.iconst 4, 1) := by decide +kernel
theorem dX11_begin_107 : decode cX11_begin 107 = .ok (.invokevirtual 208, 3) := by decide +kernel
theorem dX11_begin_110 : decode cX11_begin 110 = .ok (.aload_n 0, 1) := by decide +kernel
theorem dX11_begin_111 : decode cX11_begin 111 = .ok (.iload 4, 2) := by decide +kernel
theorem dX11_begin_113 : decode cX11_begin 113 = .ok (.i2l, 1) := by decide +kernel
theorem dX11_begin_114 : decode cX11_begin 114 = .ok (.iconst 4, 1) := by decide +kernel
theorem dX11_begin_115 : decode cX11_begin 115 = .ok (.invokevirtual 208, 3) := by decide +kernel
theorem dX11_begin_118 : decode cX11_begin 118 = .ok (.return_, 1) := by decide +kernel
set_option maxRecDepth 20000 in
theorem ggX11_end_X11_hashLaid : GoodIn wsX11_end wsX11_hashLaid := goodIn_r _ [8, 9, 10, 11, 7, 12, 13, 14, 15, 16, 3, 17, 18, 19, 20, 21, 22, 23, 24, 25, 26, 27, 28, 29, 30, 31, 32, 33, 34, 35, 36, 37, 38, 39, 40, 41, 42, 43, 44, 45, 46, 47, 48, 49, 50, 51, 52, 53, 54, 55, 56, 57, 58, 59, 60, 61, 62, 63, 64, 65, 66, 67, 68, 69, 70, 71, 72, 73, 74, 75, 76, 77, 78, 79, 80, 81, 82, 83, 84, 85, 86, 87, 88, 89, 90, 91, 92, 93, 94] rfl (by decide +kernel)
set_option maxRecDepth 20000 in
theorem gX11_end_X11_hashLaid : GoodIn wsX11_end (wsV RX11 235 RX11 yX11_hashLaid wsX11_hashLaid) := goodIn_app (goodIn_of _ (by decide +kernel)) ggX11_end_X11_hashLaid
theorem dX11_end_0 : decode cX11_end 0 = .ok (.aload_n 0, 1) := by decide +kernel
theorem dX11_end_1 : decode cX11_end 1 = .ok (.aload_n 0, 1) := by decide +kernel
theorem dX11_end_2 : decode cX11_end 2 = .ok (.getfield 162, 3) := by decide +kernel
theorem dX11_end_5 : decode cX11_end 5 = .ok (.invokevirtual 235, 3) := by decide +kernel
theorem dX11_end_8 : decode cX11_end 8 = .ok (.iconst 0, 1) := by decide +kernel
theorem dX11_end_9 : decode cX11_end 9 = .ok (.istore_n 3, 1) := by decide +kernel
theorem dX11_end_10 : decode cX11_end 10 = .ok (.iload_n 3, 1) := by decide +kernel
theorem dX11_end_11 : decode cX11_end 11 = .ok (.aload_n 0, 1) := by decide +kernel
theorem dX11_end_12 : decode cX11_end 12 = .ok (.getfield 166, 3) := by decide +kernel
theorem dX11_end_15 : decode cX11_end 15 = .ok (.if_icmp .ge 20, 3) := by decide +kernel
theorem dX11_end_18 : decode cX11_end 18 = .ok (.aload_n 1, 1) := by decide +kernel
theorem dX11_end_19 : decode cX11_end 19 = .ok (.iload_n 2, 1) := by decide +kernel
theorem dX11_end_20 : decode cX11_end 20 = .ok (.iload_n 3, 1) := by decide +kernel
theorem dX11_end_21 : decode cX11_end 21 = .ok (.iadd, 1) := by decide +kernel
theorem dX11_end_22 : decode cX11_end 22 = .ok (.aload_n 0, 1) := by decide +kernel
theorem dX11_end_23 : decode cX11_end 23 = .ok (.getfield 16, 3) := by decide +kernel
theorem dX11_end_26 : decode cX11_end 26 = .ok (.iload_n 3, 1) := by decide +kernel
theorem dX11_end_27 : decode cX11_end 27 = .ok (.baload, 1) := by decide +kernel
theorem dX11_end_28 : decode cX11_end 28 = .ok (.bastore, 1) := by decide +kernel
theorem dX11_end_29 : decode cX11_end 29 = .ok (.iinc 3 1, 3) := by decide +kernel
theorem dX11_end_32 : decode cX11_end 32 = .ok (.goto (-22), 3) := by decide +kernel
theorem dX11_end_35 : decode cX11_end 35 = .ok (.return_, 1) := by decide +kernel
set_option maxRecDepth 20000 in
theorem ggX11_secret_X11_begin : GoodIn wsX11_secret wsX11_begin := goodIn_r _ [5, 6, 7, 8, 9, 10, 11, 12, 4, 13, 14, 15, 16, 17, 18, 19, 20, 21, 22, 23, 24, 67, 68, 69, 70, 71, 72, 73, 74, 75, 76, 77, 78, 79, 80, 81, 82, 83, 84, 85, 86, 87, 88, 89, 90, 91, 92, 93, 94, 95, 96, 97, 98, 99, 100, 101, 102, 103, 104, 105, 106, 107, 108, 109] rfl (by decide +kernel)
set_option maxRecDepth 20000 in
theorem gX11_secret_X11_begin : GoodIn wsX11_secret (wsV RX11 262 RX11 yX11_begin wsX11_begin) := goodIn_app (goodIn_of _ (by decide +kernel)) ggX11_secret_X11_begin
set_option maxRecDepth 20000 in
theorem ggX11_secret_X11_laySeed : GoodIn wsX11_secret wsX11_laySeed := goodIn_r _ [13, 14, 15, 16, 17, 18, 4, 19, 20, 6, 67, 68, 69, 70, 71, 72, 73, 74, 75, 76, 77, 78, 79, 80, 81, 82, 83, 84, 85, 86, 87, 88, 89, 90, 91, 92, 93, 94, 95, 96, 97, 98, 99, 100, 101, 102, 103, 104, 105, 106, 107, 108, 109] rfl (by decide +kernel)
set_option maxRecDepth 20000 in
theorem gX11_secret_X11_laySeed : GoodIn wsX11_secret (wsV RX11 253 RX11 yX11_laySeed wsX11_laySeed) := goodIn_app (goodIn_of _ (by decide +kernel)) ggX11_secret_X11_laySeed
set_option maxRecDepth 20000 in
theorem ggX11_secret_X11_end : GoodIn wsX11_secret wsX11_end := goodIn_r _ [28, 7, 14, 29, 30, 31, 32, 4, 33, 34, 35, 36, 37, 38, 6, 39, 40, 16, 17, 18, 19, 20, 21, 22, 23, 24, 41, 42, 43, 44, 45, 46, 47, 48, 49, 50, 51, 52, 53, 54, 55, 56, 57, 58, 59, 60, 61, 62, 63, 64, 65, 66, 67, 68, 69, 70, 71, 72, 73, 74, 75, 76, 77, 78, 79, 80, 81, 82, 83, 84, 85, 86, 87, 88, 89, 90, 91, 92, 93, 94, 95, 96, 97, 98, 99, 100, 101, 102, 103, 104, 105, 106, 107, 108, 109] rfl (by decide +kernel)
set_option maxRecDepth 20000 in
theorem gX11_secret_X11_end : GoodIn wsX11_secret (wsV RX11 266 RX11 yX11_end wsX11_end) := goodIn_app (goodIn_of _ (by decide +kernel)) ggX11_secret_X11_end
theorem dX11_secret_0 : decode cX11_secret 0 = .ok (.aload_n 0, 1) := by decide +kernel
theorem dX11_secret_1 : decode cX11_secret 1 = .ok (.iload_n 1, 1) := by decide +kernel
theorem dX11_secret_2 : decode cX11_secret 2 = .ok (.iload_n 2, 1) := by decide +kernel
theorem dX11_secret_3 : decode cX11_secret 3 = .ok (.iload_n 3, 1) := by decide +kernel
theorem dX11_secret_4 : decode cX11_secret 4 = .ok (.iload 4, 2) := by decide +kernel
theorem dX11_secret_6 : decode cX11_secret 6 = .ok (.invokevirtual 262, 3) := by decide +kernel
theorem dX11_secret_9 : decode cX11_secret 9 = .ok (.aload_n 0, 1) := by decide +kernel
theorem dX11_secret_10 : decode cX11_secret 10 = .ok (.iconst 0, 1) := by decide +kernel
theorem dX11_secret_11 : decode cX11_secret 11 = .ok (.invokevirtual 253, 3) := by decide +kernel
theorem dX11_secret_14 : decode cX11_secret 14 = .ok (.aload_n 0, 1) := by decide +kernel
theorem dX11_secret_15 : decode cX11_secret 15 = .ok (.aload 5, 2) := by decide +kernel
theorem dX11_secret_17 : decode cX11_secret 17 = .ok (.iload 6, 2) := by decide +kernel
theorem dX11_secret_19 : decode cX11_secret 19 = .ok (.invokevirtual 266, 3) := by decide +kernel
theorem dX11_secret_22 : decode cX11_secret 22 = .ok (.return_, 1) := by decide +kernel
set_option maxRecDepth 20000 in
theorem ggX11_chain_X11_begin : GoodIn wsX11_chain wsX11_begin := goodIn_r _ [6, 7, 8, 9, 10, 11, 12, 13, 5, 14, 1, 15, 16, 17, 18, 19, 20, 21, 22, 23, 24, 71, 72, 73, 74, 75, 76, 77, 78, 79, 80, 81, 82, 83, 84, 85, 86, 87, 88, 89, 90, 91, 92, 93, 94, 95, 96, 97, 98, 99, 100, 101, 102, 103, 104, 105, 106, 107, 108, 109, 110, 111, 112, 113] rfl (by decide +kernel)
set_option maxRecDepth 20000 in
theorem gX11_chain_X11_begin : GoodIn wsX11_chain (wsV RX11 262 RX11 yX11_begin wsX11_begin) := goodIn_app (goodIn_of _ (by decide +kernel)) ggX11_chain_X11_begin
set_option maxRecDepth 20000 in
theorem ggX11_chain_X11_layRow : GoodIn wsX11_chain wsX11_layRow := goodIn_r _ [28, 16, 17, 18, 5, 19, 20, 7, 71, 72, 73, 74, 75, 76, 77, 78, 79, 80, 81, 82, 83, 84, 85, 86, 87, 88, 89, 90, 91, 92, 93, 94, 95, 96, 97, 98, 99, 100, 101, 102, 103, 104, 105, 106, 107, 108, 109, 110, 111, 112, 113] rfl (by decide +kernel)
set_option maxRecDepth 20000 in
theorem gX11_chain_X11_layRow : GoodIn wsX11_chain (wsV RX11 270 RX11 yX11_layRow wsX11_layRow) := goodIn_app (goodIn_of _ (by decide +kernel)) ggX11_chain_X11_layRow
set_option maxRecDepth 20000 in
theorem ggX11_chain_X11_end : GoodIn wsX11_chain wsX11_end := goodIn_r _ [32, 8, 1, 33, 34, 35, 36, 5, 37, 38, 39, 40, 41, 42, 7, 43, 44, 16, 17, 18, 19, 20, 21, 22, 23, 24, 45, 46, 47, 48, 49, 50, 51, 52, 53, 54, 55, 56, 57, 58, 59, 60, 61, 62, 63, 64, 65, 66, 67, 68, 69, 70, 71, 72, 73, 74, 75, 76, 77, 78, 79, 80, 81, 82, 83, 84, 85, 86, 87, 88, 89, 90, 91, 92, 93, 94, 95, 96, 97, 98, 99, 100, 101, 102, 103, 104, 105, 106, 107, 108, 109, 110, 111, 112, 113] rfl (by decide +kernel)
set_option maxRecDepth 20000 in
theorem gX11_chain_X11_end : GoodIn wsX11_chain (wsV RX11 266 RX11 yX11_end wsX11_end) := goodIn_app (goodIn_of _ (by decide +kernel)) ggX11_chain_X11_end
theorem dX11_chain_0 : decode cX11_chain 0 = .ok (.iconst 0, 1) := by decide +kernel
theorem dX11_chain_1 : decode cX11_chain 1 = .ok (.istore 7, 2) := by decide +kernel
theorem dX11_chain_3 : decode cX11_chain 3 = .ok (.iload 7, 2) := by decide +kernel
theorem dX11_chain_5 : decode cX11_chain 5 = .ok (.iload 4, 2) := by decide +kernel
theorem dX11_chain_7 : decode cX11_chain 7 = .ok (.if_icmp .ge 38, 3) := by decide +kernel
theorem dX11_chain_10 : decode cX11_chain 10 = .ok (.aload_n 0, 1) := by decide +kernel
theorem dX11_chain_11 : decode cX11_chain 11 = .ok (.iconst 0, 1) := by decide +kernel
theorem dX11_chain_12 : decode cX11_chain 12 = .ok (.iload 5, 2) := by decide +kernel
theorem dX11_chain_14 : decode cX11_chain 14 = .ok (.iload 6, 2) := by decide +kernel
theorem dX11_chain_16 : decode cX11_chain 16 = .ok (.iload_n 3, 1) := by decide +kernel
theorem dX11_chain_17 : decode cX11_chain 17 = .ok (.iload 7, 2) := by decide +kernel
theorem dX11_chain_19 : decode cX11_chain 19 = .ok (.iadd, 1) := by decide +kernel
theorem dX11_chain_20 : decode cX11_chain 20 = .ok (.invokevirtual 262, 3) := by decide +kernel
theorem dX11_chain_23 : decode cX11_chain 23 = .ok (.aload_n 0, 1) := by decide +kernel
theorem dX11_chain_24 : decode cX11_chain 24 = .ok (.aload_n 1, 1) := by decide +kernel
theorem dX11_chain_25 : decode cX11_chain 25 = .ok (.iload_n 2, 1) := by decide +kernel
theorem dX11_chain_26 : decode cX11_chain 26 = .ok (.aload_n 0, 1) := by decide +kernel
theorem dX11_chain_27 : decode cX11_chain 27 = .ok (.getfield 166, 3) := by decide +kernel
theorem dX11_chain_30 : decode cX11_chain 30 = .ok (.invokevirtual 270, 3) := by decide +kernel
theorem dX11_chain_33 : decode cX11_chain 33 = .ok (.aload_n 0, 1) := by decide +kernel
theorem dX11_chain_34 : decode cX11_chain 34 = .ok (.aload_n 1, 1) := by decide +kernel
theorem dX11_chain_35 : decode cX11_chain 35 = .ok (.iload_n 2, 1) := by decide +kernel
theorem dX11_chain_36 : decode cX11_chain 36 = .ok (.invokevirtual 266, 3) := by decide +kernel
theorem dX11_chain_39 : decode cX11_chain 39 = .ok (.iinc 7 1, 3) := by decide +kernel
theorem dX11_chain_42 : decode cX11_chain 42 = .ok (.goto (-39), 3) := by decide +kernel
theorem dX11_chain_45 : decode cX11_chain 45 = .ok (.return_, 1) := by decide +kernel
set_option maxHeartbeats 1000000 in
set_option maxRecDepth 100000 in
/-- the reference: begin -/
theorem c_begin (l : Launch) (g : jG) (h : Nat) (b : Nat → Nat) (v : Nat → Int32) (f : Nat → Int32) (sd : Nat → Int32) (fm : Nat) (nn : Nat) (ly : Nat) (tr : Nat) (kd : Nat) (ku : Nat) (kv : Nat) (kw : Nat) (hv15 : v 15 = nI fm) (hv16 : v 16 = nI nn) (hv27 : v 27 = nI ly) (hv28 : v 28 = nI tr) (hfm : fm < 2) (hnn : nn ≤ 16) (hB : isB sd) : jC l g yX11_begin wsX11_begin ({ frames := 2, cells := 0, slots := 0, locals := 45 } : Room) [.ref h, .int (nI kd), .int (nI ku), .int (nI kv), .int (nI kw)] [oB h 11 (mO b v), bA g (b 2) 1400 f, bA g (b 23) 48 sd] (fun u : (Nat → Int32) => none) (fun u : (Nat → Int32) => u = putL f 0 (hd fm nn sd ly tr kd ku kv kw)) (fun u : (Nat → Int32) => [oB h 11 (mO b (upd v 3 (nI (hl fm nn)))), bA g (b 2) 1400 u, bA g (b 23) 48 sd]) := by
  refine jC.of (cc := cX11_begin) (own := RX11) (maxL := 5) (ret := none) (by decide +kernel) rfl rfl (Nat.le_of_ble_eq_true rfl) (fun u hu => rfl) ?_
  intro p e s m below meth c A Q hX hret
  have in11 : ∀ w ∈ wsX110, w ∈ wsX11_begin := (fun w h => List.mem_cons_of_mem _ (List.mem_append_right _ h))
  refine j_aload_n hX 0 dX11_begin_0 rfl ?_
  refine j_iconst hX (0) dX11_begin_1 (by decide) ?_
  refine j_st [.int (nI 0), .ref h] rfl ?_
  refine j_put hX (v := .int (nI 0)) (ty := .int) in11 tyX11 tyX11_ok nmX11 11 0 3 rfl rfl (by decide) (List.mem_of_getElem? (i := 1) rfl) rfl rfl rfl rfl rfl (Nat.le_of_ble_eq_true rfl) [oB h 11 (mO b (upd v 3 (nI 0))), bA g (b 2) 1400 f, bA g (b 23) 48 sd] rfl dX11_begin_2 ?_
  refine j_aload_n hX 0 dX11_begin_5 rfl ?_
  refine j_iconst hX (2) dX11_begin_6 (by decide) ?_
  refine j_callV hX 1 (c_laySeed l g h b (upd v 3 (nI 0)) 0 f sd nn 2 rfl hv16 (by omega) (by omega) (by omega) hB) gX11_begin_X11_laySeed (by decide +kernel) rfl ⟨rfl, rfl⟩ ⟨Nat.le_of_ble_eq_true rfl, Nat.le_of_ble_eq_true rfl⟩ 11 0 rfl rfl [0, 1, 2] rfl (by decide) (fun _ => rfl) rfl [] rfl (Nat.le_of_ble_eq_true rfl) ⟨Nat.le_refl _, Nat.le_refl _⟩ dX11_begin_7 ?_
  intro F1 hF1
  try dsimp only at hF1
  refine j_w [oB h 11 (mO b (upd v 3 (nI (0 + nn)))), bA g (b 2) 1400 F1, bA g (b 23) 48 sd] rfl ?_
  refine j_st [] rfl ?_
  have jn_1 : ∀ (m2 : Nat) (F2 : Nat → Int32), (m2 = if fm = 0 then 64 else nn) → (F2 = putL f 0 (slice sd 32 nn ++ (if fm = 0 then List.replicate (64 - nn) 0 else []))) → J p l e ({ frames := 2, cells := 0, slots := 0, locals := 45 } : Room) s m ([.ref h, .int (nI kd), .int (nI ku), .int (nI kv), .int (nI kw)] : List Value).toArray below meth c g A 5 Q 0 0 [oB h 11 (mO b (upd v 3 (nI m2))), bA g (b 2) 1400 F2, bA g (b 23) 48 sd] [(0, .ref h), (1, .int (nI kd)), (2, .int (nI ku)), (3, .int (nI kv)), (4, .int (nI kw))] 34 [] := by
    intro m2 F2 hm2 hF2
    refine j_aload_n hX 0 dX11_begin_34 rfl ?_
    refine j_pc 35 rfl ?_
    refine j_aload_n hX 0 dX11_begin_35 rfl ?_
    refine j_gete hX (nI ly) in11 11 0 27 rfl rfl (by decide) (List.mem_of_getElem? (i := 3) rfl) rfl rfl hv27 dX11_begin_36 ?_
    refine j_i2l hX dX11_begin_39 ?_
    refine j_aload_n hX 0 dX11_begin_40 rfl ?_
    have jn_2 : ∀ (cn : Nat), (cn = if fm = 0 then 1 else 4) → J p l e ({ frames := 2, cells := 0, slots := 0, locals := 45 } : Room) s m ([.ref h, .int (nI kd), .int (nI ku), .int (nI kv), .int (nI kw)] : List Value).toArray below meth c g A 5 Q 0 0 [oB h 11 (mO b (upd v 3 (nI m2))), bA g (b 2) 1400 F2, bA g (b 23) 48 sd] [(0, .ref h), (1, .int (nI kd)), (2, .int (nI ku)), (3, .int (nI kv)), (4, .int (nI kw))] 52 [.int (nI cn), .long ((nI ly).toInt64), .ref h] := by
      intro cn hcn
      have hcl : m2 ≤ 64 ∧ cn ≤ 4 := by split at hm2 <;> split at hcn <;> omega
      refine j_callV hX 2 (c_mlayNumber l g h b (upd v 3 (nI m2)) m2 F2 ((nI ly).toInt64) cn rfl (by omega)) gX11_begin_X11_layNumber (by decide +kernel) rfl ⟨rfl, rfl⟩ ⟨Nat.le_of_ble_eq_true rfl, Nat.le_of_ble_eq_true rfl⟩ 11 0 rfl rfl [0, 1] rfl (by decide) (fun _ => rfl) rfl [] rfl (Nat.le_of_ble_eq_true rfl) ⟨Nat.le_refl _, Nat.le_refl _⟩ dX11_begin_52 ?_
      intro F3 hF3
      try dsimp only at hF3
      refine j_w [oB h 11 (mO b (upd v 3 (nI (m2 + cn)))), bA g (b 2) 1400 F3, bA g (b 23) 48 sd] rfl ?_
      refine j_st [] rfl ?_
      refine j_aload_n hX 0 dX11_begin_55 rfl ?_
      refine j_aload_n hX 0 dX11_begin_56 rfl ?_
      refine j_gete hX (nI tr) in11 11 0 28 rfl rfl (by decide) (List.mem_of_getElem? (i := 4) rfl) rfl rfl hv28 dX11_begin_57 ?_
      refine j_pc 60 rfl ?_
      refine j_i2l hX dX11_begin_60 ?_
      refine j_aload_n hX 0 dX11_begin_61 rfl ?_
      have jn_3 : ∀ (cm : Nat), (cm = if fm = 0 then 8 else 12) → J p l e ({ frames := 2, cells := 0, slots := 0, locals := 45 } : Room) s m ([.ref h, .int (nI kd), .int (nI ku), .int (nI kv), .int (nI kw)] : List Value).toArray below meth c g A 5 Q 0 0 [oB h 11 (mO b (upd v 3 (nI (m2 + cn)))), bA g (b 2) 1400 F3, bA g (b 23) 48 sd] [(0, .ref h), (1, .int (nI kd)), (2, .int (nI ku)), (3, .int (nI kv)), (4, .int (nI kw))] 75 [.int (nI cm), .long ((nI tr).toInt64), .ref h] := by
        intro cm hcm
        have hcl2 : cm ≤ 12 := by split at hcm <;> omega
        refine j_callV hX 2 (c_mlayNumber l g h b (upd v 3 (nI (m2 + cn))) (m2 + cn) F3 ((nI tr).toInt64) cm rfl (by omega)) gX11_begin_X11_layNumber (by decide +kernel) rfl ⟨rfl, rfl⟩ ⟨Nat.le_of_ble_eq_true rfl, Nat.le_of_ble_eq_true rfl⟩ 11 0 rfl rfl [0, 1] rfl (by decide) (fun _ => rfl) rfl [] rfl (Nat.le_of_ble_eq_true rfl) ⟨Nat.le_refl _, Nat.le_refl _⟩ dX11_begin_75 ?_
        intro F4 hF4
        try dsimp only at hF4
        refine j_w [oB h 11 (mO b (upd v 3 (nI ((m2 + cn) + cm)))), bA g (b 2) 1400 F4, bA g (b 23) 48 sd] rfl ?_
        refine j_st [] rfl ?_
        refine j_aload_n hX 0 dX11_begin_78 rfl ?_
        refine j_iload_n hX 1 dX11_begin_79 rfl ?_
        refine j_i2l hX dX11_begin_80 ?_
        refine j_aload_n hX 0 dX11_begin_81 rfl ?_
        have jn_4 : ∀ (cp : Nat), (cp = if fm = 0 then 1 else 4) → J p l e ({ frames := 2, cells := 0, slots := 0, locals := 45 } : Room) s m ([.ref h, .int (nI kd), .int (nI ku), .int (nI kv), .int (nI kw)] : List Value).toArray below meth c g A 5 Q 0 0 [oB h 11 (mO b (upd v 3 (nI (m2 + cn + cm)))), bA g (b 2) 1400 F4, bA g (b 23) 48 sd] [(0, .ref h), (1, .int (nI kd)), (2, .int (nI ku)), (3, .int (nI kv)), (4, .int (nI kw))] 93 [.int (nI cp), .long ((nI kd).toInt64), .ref h] := by
          intro cp hcp
          have hcl3 : cp ≤ 4 := by split at hcp <;> omega
          refine j_callV hX 2 (c_mlayNumber l g h b (upd v 3 (nI (m2 + cn + cm))) (m2 + cn + cm) F4 ((nI kd).toInt64) cp rfl (by omega)) gX11_begin_X11_layNumber (by decide +kernel) rfl ⟨rfl, rfl⟩ ⟨Nat.le_of_ble_eq_true rfl, Nat.le_of_ble_eq_true rfl⟩ 11 0 rfl rfl [0, 1] rfl (by decide) (fun _ => rfl) rfl [] rfl (Nat.le_of_ble_eq_true rfl) ⟨Nat.le_refl _, Nat.le_refl _⟩ dX11_begin_93 ?_
          intro F5 hF5
          try dsimp only at hF5
          refine j_w [oB h 11 (mO b (upd v 3 (nI ((m2 + cn + cm) + cp)))), bA g (b 2) 1400 F5, bA g (b 23) 48 sd] rfl ?_
          refine j_st [] rfl ?_
          refine j_pc 96 rfl ?_
          refine j_aload_n hX 0 dX11_begin_96 rfl ?_
          refine j_iload_n hX 2 dX11_begin_97 rfl ?_
          refine j_i2l hX dX11_begin_98 ?_
          refine j_iconst hX (4) dX11_begin_99 (by decide) ?_
          refine j_callV hX 2 (c_mlayNumber l g h b (upd v 3 (nI ((m2 + cn + cm) + cp))) ((m2 + cn + cm) + cp) F5 ((nI ku).toInt64) 4 rfl (by omega)) gX11_begin_X11_layNumber (by decide +kernel) rfl ⟨rfl, rfl⟩ ⟨Nat.le_of_ble_eq_true rfl, Nat.le_of_ble_eq_true rfl⟩ 11 0 rfl rfl [0, 1] rfl (by decide) (fun _ => rfl) rfl [] rfl (Nat.le_of_ble_eq_true rfl) ⟨Nat.le_refl _, Nat.le_refl _⟩ dX11_begin_100 ?_
          intro F6 hF6
          try dsimp only at hF6
          refine j_w [oB h 11 (mO b (upd v 3 (nI (((m2 + cn + cm) + cp) + 4)))), bA g (b 2) 1400 F6, bA g (b 23) 48 sd] rfl ?_
          refine j_st [] rfl ?_
          refine j_aload_n hX 0 dX11_begin_103 rfl ?_
          refine j_iload_n hX 3 dX11_begin_104 rfl ?_
          refine j_i2l hX dX11_begin_105 ?_
          refine j_pc 106 rfl ?_
          refine j_iconst hX (4) dX11_begin_106 (by decide) ?_
          refine j_callV hX 2 (c_mlayNumber l g h b (upd v 3 (nI (((m2 + cn + cm) + cp) + 4))) (((m2 + cn + cm) + cp) + 4) F6 ((nI kv).toInt64) 4 rfl (by omega)) gX11_begin_X11_layNumber (by decide +kernel) rfl ⟨rfl, rfl⟩ ⟨Nat.le_of_ble_eq_true rfl, Nat.le_of_ble_eq_true rfl⟩ 11 0 rfl rfl [0, 1] rfl (by decide) (fun _ => rfl) rfl [] rfl (Nat.le_of_ble_eq_true rfl) ⟨Nat.le_refl _, Nat.le_refl _⟩ dX11_begin_107 ?_
          intro F7 hF7
          try dsimp only at hF7
          refine j_w [oB h 11 (mO b (upd v 3 (nI ((((m2 + cn + cm) + cp) + 4) + 4)))), bA g (b 2) 1400 F7, bA g (b 23) 48 sd] rfl ?_
          refine j_st [] rfl ?_
          refine j_aload_n hX 0 dX11_begin_110 rfl ?_
          refine j_iload hX 4 dX11_begin_111 rfl ?_
          refine j_i2l hX dX11_begin_113 ?_
          refine j_iconst hX (4) dX11_begin_114 (by decide) ?_
          refine j_callV hX 2 (c_mlayNumber l g h b (upd v 3 (nI ((((m2 + cn + cm) + cp) + 4) + 4))) ((((m2 + cn + cm) + cp) + 4) + 4) F7 ((nI kw).toInt64) 4 rfl (by omega)) gX11_begin_X11_layNumber (by decide +kernel) rfl ⟨rfl, rfl⟩ ⟨Nat.le_of_ble_eq_true rfl, Nat.le_of_ble_eq_true rfl⟩ 11 0 rfl rfl [0, 1] rfl (by decide) (fun _ => rfl) rfl [] rfl (Nat.le_of_ble_eq_true rfl) ⟨Nat.le_refl _, Nat.le_refl _⟩ dX11_begin_115 ?_
          intro F8 hF8
          try dsimp only at hF8
          refine j_w [oB h 11 (mO b (upd v 3 (nI (((((m2 + cn + cm) + cp) + 4) + 4) + 4)))), bA g (b 2) 1400 F8, bA g (b 23) 48 sd] rfl ?_
          refine j_st [] rfl ?_
          obtain ⟨hFin, hlen⟩ := begin_fin hnn hm2 hcn hcm hcp hF2 hF3 hF4 hF5 hF6 hF7 hF8
          refine j_w [oB h 11 (mO b (upd v 3 (nI (hl fm nn)))), bA g (b 2) 1400 F8, bA g (b 23) 48 sd] (by rw [← hlen]) ?_
          exact hret F8 hFin 118 _ .return_ dX11_begin_118 rfl
        refine j_pc 82 rfl ?_
        refine j_gete hX (nI fm) in11 11 0 15 rfl rfl (by decide) (List.mem_of_getElem? (i := 2) rfl) rfl rfl hv15 dX11_begin_82 ?_
        refine j_if_neN hX fm 92 dX11_begin_85 (by decide) (by omega) (fun b_85 => ?_) (fun b_85 => ?_)
        · skip
          refine j_iconst hX (4) dX11_begin_92 (by decide) ?_
          exact jn_4 4 (by first | rw [if_pos (by omega)] | rw [if_neg (by omega)])
        · skip
          refine j_iconst hX (1) dX11_begin_88 (by decide) ?_
          refine j_goto hX 93 dX11_begin_89 (by decide) ?_
          exact jn_4 1 (by first | rw [if_pos (by omega)] | rw [if_neg (by omega)])
      refine j_gete hX (nI fm) in11 11 0 15 rfl rfl (by decide) (List.mem_of_getElem? (i := 2) rfl) rfl rfl hv15 dX11_begin_62 ?_
      refine j_if_neN hX fm 73 dX11_begin_65 (by decide) (by omega) (fun b_65 => ?_) (fun b_65 => ?_)
      · skip
        refine j_bipush hX (12) dX11_begin_73 (by decide) ?_
        exact jn_3 12 (by first | rw [if_pos (by omega)] | rw [if_neg (by omega)])
      · skip
        refine j_pc 68 rfl ?_
        refine j_bipush hX (8) dX11_begin_68 (by decide) ?_
        refine j_goto hX 75 dX11_begin_70 (by decide) ?_
        exact jn_3 8 (by first | rw [if_pos (by omega)] | rw [if_neg (by omega)])
    refine j_gete hX (nI fm) in11 11 0 15 rfl rfl (by decide) (List.mem_of_getElem? (i := 2) rfl) rfl rfl hv15 dX11_begin_41 ?_
    refine j_if_neN hX fm 51 dX11_begin_44 (by decide) (by omega) (fun b_44 => ?_) (fun b_44 => ?_)
    · skip
      refine j_iconst hX (4) dX11_begin_51 (by decide) ?_
      exact jn_2 4 (by first | rw [if_pos (by omega)] | rw [if_neg (by omega)])
    · skip
      refine j_iconst hX (1) dX11_begin_47 (by decide) ?_
      refine j_goto hX 52 dX11_begin_48 (by decide) ?_
      exact jn_2 1 (by first | rw [if_pos (by omega)] | rw [if_neg (by omega)])
  refine j_w [oB h 11 (mO b (upd v 3 (nI nn))), bA g (b 2) 1400 F1, bA g (b 23) 48 sd] (by rw [Nat.zero_add]) ?_
  refine j_aload_n hX 0 dX11_begin_10 rfl ?_
  refine j_pc 11 rfl ?_
  refine j_gete hX (nI fm) in11 11 0 15 rfl rfl (by decide) (List.mem_of_getElem? (i := 2) rfl) rfl rfl hv15 dX11_begin_11 ?_
  refine j_if_neN hX fm 34 dX11_begin_14 (by decide) (by omega) (fun b_14 => ?_) (fun b_14 => ?_)
  · skip
    exact jn_1 nn F1 (by first | (rw [if_pos (by omega)]; omega) | (rw [if_neg (by omega)])) (by first | (rw [if_pos (by omega), hF, show q = 64 - nn by omega]) | (rw [if_neg (by omega), hF1]; simp))
  · skip
    have lp_5 : ∀ (n_6 : Nat) (q : Nat) (F : Nat → Int32), (64 - q < n_6) → (nn + q ≤ 64) → (F = putL f 0 (slice sd 32 nn ++ List.replicate q 0)) → J p l e ({ frames := 2, cells := 0, slots := 0, locals := 45 } : Room) s m ([.ref h, .int (nI kd), .int (nI ku), .int (nI kv), .int (nI kw)] : List Value).toArray below meth c g A 5 Q 0 0 [oB h 11 (mO b (upd v 3 (nI (nn + q)))), bA g (b 2) 1400 F, bA g (b 23) 48 sd] [(0, .ref h), (1, .int (nI kd)), (2, .int (nI ku)), (3, .int (nI kv)), (4, .int (nI kw))] 17 [] := by
      intro n_6
      induction n_6 with
      | zero => intro q F hm; exact absurd hm (Nat.not_lt_zero _)
      | succ n_6 ih_7 =>
        intro q F hm hq hF
        refine j_aload_n hX 0 dX11_begin_17 rfl ?_
        refine j_get hX in11 11 0 3 (v := .int (nI (nn + q))) rfl rfl (by decide) (List.mem_of_getElem? (i := 1) rfl) rfl rfl dX11_begin_18 ?_
        refine j_bipush hX (64) dX11_begin_21 (by decide) ?_
        refine j_icmp_geN hX (nn + q) 64 34 dX11_begin_23 (by decide) (by omega) (by omega) (fun b_23 => ?_) (fun b_23 => ?_)
        · skip
          exact jn_1 (nn + q) F (by first | (rw [if_pos (by omega)]; omega) | (rw [if_neg (by omega)])) (by first | (rw [if_pos (by omega), hF, show q = 64 - nn by omega]) | (rw [if_neg (by omega), hF1]; simp))
        · skip
          refine j_aload_n hX 0 dX11_begin_26 rfl ?_
          refine j_iconst hX (0) dX11_begin_27 (by decide) ?_
          refine j_pc 28 rfl ?_
          refine j_callV hX 1 (c_mlay l g h b (upd v 3 (nI (nn + q))) (nn + q) F 0 rfl (by omega)) gX11_begin_X11_lay (by decide +kernel) rfl ⟨rfl, rfl⟩ ⟨Nat.le_of_ble_eq_true rfl, Nat.le_of_ble_eq_true rfl⟩ 11 0 rfl rfl [0, 1] rfl (by decide) (fun _ => rfl) rfl [] rfl (Nat.le_of_ble_eq_true rfl) ⟨Nat.le_refl _, Nat.le_refl _⟩ dX11_begin_28 ?_
          intro _ hu_8
          refine j_w [oB h 11 (mO b (upd v 3 (nI ((nn + q) + 1)))), bA g (b 2) 1400 (upd F (nn + q) (i8 0)), bA g (b 23) 48 sd] rfl ?_
          refine j_st [] rfl ?_
          refine j_goto hX 17 dX11_begin_31 (by decide) ?_
          exact ih_7 (q + 1) (upd F (nn + q) (i8 0)) (by omega) (by omega) (by rw [hF, putL_snoc (by simp [slice_length]), i8_0, List.append_assoc, ← List.replicate_succ'])
    exact lp_5 _ 0 F1 (Nat.lt_succ_self _) (by omega) (by rw [hF1]; simp)

set_option maxHeartbeats 1000000 in
set_option maxRecDepth 100000 in
/-- the reference: end -/
theorem c_end (l : Launch) (g : jG) (h : Nat) (b : Nat → Nat) (v : Nat → Int32) (n : Nat) (f : Nat → Int32) (dg : Nat → Int32) (w0 : Nat → Int32) (S0 : Nat → Int32) (fs : Nat → Int32) (rt : Nat → Int32) (A0 : Nat → Int64) (T0 : Nat → Int64) (U0 : Nat → Int64) (tn : Nat → Int32) (ta : Nat) (tc : Nat) (tf : Nat → Int32) (fm : Nat) (nn : Nat) (t : Nat) (hv3 : v 3 = nI n) (hv15 : v 15 = nI fm) (hv16 : v 16 = nI nn) (hn : n + 137 ≤ 1400) (hfs : ∀ j, j < 8 → fs j = s_first.getD j 0) (hrt : ∀ j, j < 64 → rt j = s_cube.getD j 0) (htn : ∀ k, k < 25 → tn k = s_turns.getD k 0) (hfm : fm < 2) (hnn : nn ≤ 16) (htc : t + nn ≤ tc) (htb : tc < 2 ^ 31) : jC l g yX11_end wsX11_end ({ frames := 4, cells := 0, slots := 0, locals := 97 } : Room) [.ref h, .ref ta, .int (nI t)] [oB h 11 (mO b v), bA g (b 2) 1400 f, bA g (b 4) 32 dg, iA g (b 5) 64 w0, iA g (b 6) 8 S0, iA g (b 7) 8 fs, iA g (b 8) 64 rt, lA g (b 9) 25 A0, lA g (b 10) 25 T0, lA g (b 11) 5 U0, iA g (b 12) 25 tn, bA g ta tc tf] (fun u : (Nat → Int32) × (Nat → Int32) × (Nat → Int64) × (Nat → Int64) × (Nat → Int64) × Nat × (Nat → Int32) × (Nat → Int32) × (Nat → Int32) => none) (fun u : (Nat → Int32) × (Nat → Int32) × (Nat → Int64) × (Nat → Int64) × (Nat → Int64) × Nat × (Nat → Int32) × (Nat → Int32) × (Nat → Int32) => u.2.2.2.2.2.1 ≤ 1400 ∧ u.2.2.2.2.2.2.2.2 = putL tf t ((HH fm (slice f 0 n)).take nn)) (fun u : (Nat → Int32) × (Nat → Int32) × (Nat → Int64) × (Nat → Int64) × (Nat → Int64) × Nat × (Nat → Int32) × (Nat → Int32) × (Nat → Int32) => [oB h 11 (mO b (upd v 3 (nI u.2.2.2.2.2.1))), bA g (b 2) 1400 u.2.2.2.2.2.2.1, bA g (b 4) 32 u.2.2.2.2.2.2.2.1, iA g (b 5) 64 u.1, iA g (b 6) 8 u.2.1, iA g (b 7) 8 fs, iA g (b 8) 64 rt, lA g (b 9) 25 u.2.2.1, lA g (b 10) 25 u.2.2.2.1, lA g (b 11) 5 u.2.2.2.2.1, iA g (b 12) 25 tn, bA g ta tc u.2.2.2.2.2.2.2.2]) := by
  refine jC.of (cc := cX11_end) (own := RX11) (maxL := 4) (ret := none) (by decide +kernel) rfl rfl (Nat.le_of_ble_eq_true rfl) (fun u hu => rfl) ?_
  intro p e s m below meth c A Q hX hret
  have in11 : ∀ w ∈ wsX110, w ∈ wsX11_end := (fun w h => List.mem_cons_of_mem _ (List.mem_append_right _ h))
  refine j_aload_n hX 0 dX11_end_0 rfl ?_
  refine j_aload_n hX 0 dX11_end_1 rfl ?_
  refine j_gete hX (nI fm) in11 11 0 15 rfl rfl (by decide) (List.mem_of_getElem? (i := 1) rfl) rfl rfl hv15 dX11_end_2 ?_
  refine j_callV hX 1 (c_hashLaid l g h b v n f dg w0 S0 fs rt A0 T0 U0 tn fm hv3 (by omega) hfs hrt htn (by omega)) gX11_end_X11_hashLaid (by decide +kernel) rfl ⟨rfl, rfl⟩ ⟨Nat.le_of_ble_eq_true rfl, Nat.le_of_ble_eq_true rfl⟩ 11 0 rfl rfl [0, 1, 2, 3, 4, 5, 6, 7, 8, 9, 10] rfl (by decide) (fun _ => rfl) rfl [] rfl (Nat.le_of_ble_eq_true rfl) ⟨Nat.le_refl _, Nat.le_refl _⟩ dX11_end_5 ?_
  rintro ⟨w5, S5, A5, T5, U5, nl5, G5, FO5⟩ hW
  try dsimp only at hW
  refine j_w [oB h 11 (mO b (upd v 3 (nI nl5))), bA g (b 2) 1400 G5, bA g (b 4) 32 FO5, iA g (b 5) 64 w5, iA g (b 6) 8 S5, iA g (b 7) 8 fs, iA g (b 8) 64 rt, lA g (b 9) 25 A5, lA g (b 10) 25 T5, lA g (b 11) 5 U5, iA g (b 12) 25 tn, bA g ta tc tf] rfl ?_
  refine j_st [] rfl ?_
  refine j_iconst hX (0) dX11_end_8 (by decide) ?_
  refine j_st [.int (nI 0)] rfl ?_
  refine j_istore_n hX 3 [(3, .int (nI 0)), (0, .ref h), (1, .ref ta), (2, .int (nI t))] dX11_end_9 rfl (by decide) rfl ?_
  have lp_1 : ∀ (n_2 : Nat) (k : Nat) (TO : Nat → Int32), (nn - k < n_2) → (k ≤ nn) → (TO = putL tf t ((HH fm (slice f 0 n)).take k)) → J p l e ({ frames := 4, cells := 0, slots := 0, locals := 97 } : Room) s m ([.ref h, .ref ta, .int (nI t)] : List Value).toArray below meth c g A 4 Q 0 0 [oB h 11 (mO b (upd v 3 (nI nl5))), bA g (b 2) 1400 G5, bA g (b 4) 32 FO5, iA g (b 5) 64 w5, iA g (b 6) 8 S5, iA g (b 7) 8 fs, iA g (b 8) 64 rt, lA g (b 9) 25 A5, lA g (b 10) 25 T5, lA g (b 11) 5 U5, iA g (b 12) 25 tn, bA g ta tc TO] [(0, .ref h), (1, .ref ta), (2, .int (nI t)), (3, .int (nI k))] 10 [] := by
    intro n_2
    induction n_2 with
    | zero => intro k TO hm; exact absurd hm (Nat.not_lt_zero _)
    | succ n_2 ih_3 =>
      intro k TO hm hk hO
      refine j_iload_n hX 3 dX11_end_10 rfl ?_
      refine j_pc 11 rfl ?_
      refine j_aload_n hX 0 dX11_end_11 rfl ?_
      refine j_gete hX (nI nn) in11 11 0 16 rfl rfl (by decide) (List.mem_of_getElem? (i := 2) rfl) rfl rfl hv16 dX11_end_12 ?_
      refine j_icmp_geN hX k nn 35 dX11_end_15 (by decide) (by omega) (by omega) (fun b_15 => ?_) (fun b_15 => ?_)
      · skip
        exact hret (w5, S5, A5, T5, U5, nl5, G5, FO5, TO) (by dsimp only; exact ⟨hW.1, by rw [hO, show k = nn by omega]⟩) 35 _ .return_ dX11_end_35 rfl
      · skip
        refine j_aload_n hX 1 dX11_end_18 rfl ?_
        refine j_iload_n hX 2 dX11_end_19 rfl ?_
        refine j_iload_n hX 3 dX11_end_20 rfl ?_
        refine j_iaddN hX t k dX11_end_21 ?_
        refine j_pc 22 rfl ?_
        refine j_aload_n hX 0 dX11_end_22 rfl ?_
        refine j_get hX in11 11 0 4 (v := .ref (b 4)) rfl rfl (by decide) (List.mem_of_getElem? (i := 3) rfl) rfl rfl dX11_end_23 ?_
        refine j_iload_n hX 3 dX11_end_26 rfl ?_
        refine j_baldN hX 2 k rfl (by omega) (by omega) dX11_end_27 ?_
        refine j_bastN hX 11 (t + k) rfl (by omega) (by omega) [oB h 11 (mO b (upd v 3 (nI nl5))), bA g (b 2) 1400 G5, bA g (b 4) 32 FO5, iA g (b 5) 64 w5, iA g (b 6) 8 S5, iA g (b 7) 8 fs, iA g (b 8) 64 rt, lA g (b 9) 25 A5, lA g (b 10) 25 T5, lA g (b 11) 5 U5, iA g (b 12) 25 tn, bA g ta tc (upd TO (t + k) (i8 (FO5 k)))] rfl dX11_end_28 ?_
        refine j_iincN hX k (k + 1) [(3, .int (nI (k + 1))), (0, .ref h), (1, .ref ta), (2, .int (nI t))] 3 dX11_end_29 rfl (nI_1 _) (by decide) rfl ?_
        refine j_goto hX 10 dX11_end_32 (by decide) ?_
        refine j_perm [(0, .ref h), (1, .ref ta), (2, .int (nI t)), (3, .int (nI (k + 1)))] [1, 2, 3, 0] rfl ?_
        exact ih_3 (k + 1) (upd TO (t + k) (i8 (FO5 k))) (by omega) (by omega) (take_put2 hO (by rw [HH_length]; omega) (by rw [put_read hW.2 (by rw [HH_length]; omega), getD_B (HH_B _ _)]))
  refine j_perm [(0, .ref h), (1, .ref ta), (2, .int (nI t)), (3, .int (nI 0))] [1, 2, 3, 0] rfl ?_
  exact lp_1 _ 0 tf (Nat.lt_succ_self _) (by omega) (by rw [List.take_zero, putL_nil])

set_option maxHeartbeats 1000000 in
set_option maxRecDepth 100000 in
/-- the reference: secret -/
theorem c_secret (l : Launch) (g : jG) (h : Nat) (b : Nat → Nat) (v : Nat → Int32) (f : Nat → Int32) (dg : Nat → Int32) (w0 : Nat → Int32) (S0 : Nat → Int32) (fs : Nat → Int32) (rt : Nat → Int32) (A0 : Nat → Int64) (T0 : Nat → Int64) (U0 : Nat → Int64) (tn : Nat → Int32) (sd : Nat → Int32) (fm : Nat) (nn : Nat) (ly : Nat) (tr : Nat) (kd : Nat) (ku : Nat) (kv : Nat) (kw : Nat) (ta : Nat) (tc : Nat) (tf : Nat → Int32) (t : Nat) (hv15 : v 15 = nI fm) (hv16 : v 16 = nI nn) (hv27 : v 27 = nI ly) (hv28 : v 28 = nI tr) (hfm : fm < 2) (hnn : nn ≤ 16) (hB : isB sd) (hfs : ∀ j, j < 8 → fs j = s_first.getD j 0) (hrt : ∀ j, j < 64 → rt j = s_cube.getD j 0) (htn : ∀ k, k < 25 → tn k = s_turns.getD k 0) (htc : t + nn ≤ tc) (htb : tc < 2 ^ 31) : jC l g yX11_secret wsX11_secret ({ frames := 5, cells := 0, slots := 0, locals := 120 } : Room) [.ref h, .int (nI kd), .int (nI ku), .int (nI kv), .int (nI kw), .ref ta, .int (nI t)] [oB h 11 (mO b v), bA g (b 2) 1400 f, bA g (b 4) 32 dg, iA g (b 5) 64 w0, iA g (b 6) 8 S0, iA g (b 7) 8 fs, iA g (b 8) 64 rt, lA g (b 9) 25 A0, lA g (b 10) 25 T0, lA g (b 11) 5 U0, iA g (b 12) 25 tn, bA g (b 23) 48 sd, bA g ta tc tf] (fun u : (Nat → Int32) × (Nat → Int32) × (Nat → Int64) × (Nat → Int64) × (Nat → Int64) × Nat × (Nat → Int32) × (Nat → Int32) × (Nat → Int32) => none) (fun u : (Nat → Int32) × (Nat → Int32) × (Nat → Int64) × (Nat → Int64) × (Nat → Int64) × Nat × (Nat → Int32) × (Nat → Int32) × (Nat → Int32) => u.2.2.2.2.2.1 ≤ 1400 ∧ u.2.2.2.2.2.2.2.2 = putL tf t (secT fm nn sd ly tr kd ku kv kw)) (fun u : (Nat → Int32) × (Nat → Int32) × (Nat → Int64) × (Nat → Int64) × (Nat → Int64) × Nat × (Nat → Int32) × (Nat → Int32) × (Nat → Int32) => [oB h 11 (mO b (upd v 3 (nI u.2.2.2.2.2.1))), bA g (b 2) 1400 u.2.2.2.2.2.2.1, bA g (b 4) 32 u.2.2.2.2.2.2.2.1, iA g (b 5) 64 u.1, iA g (b 6) 8 u.2.1, iA g (b 7) 8 fs, iA g (b 8) 64 rt, lA g (b 9) 25 u.2.2.1, lA g (b 10) 25 u.2.2.2.1, lA g (b 11) 5 u.2.2.2.2.1, iA g (b 12) 25 tn, bA g (b 23) 48 sd, bA g ta tc u.2.2.2.2.2.2.2.2]) := by
  refine jC.of (cc := cX11_secret) (own := RX11) (maxL := 7) (ret := none) (by decide +kernel) rfl rfl (Nat.le_of_ble_eq_true rfl) (fun u hu => rfl) ?_
  intro p e s m below meth c A Q hX hret
  have hh := hl_le (fm := fm) hnn
  have hdl := hd_length (fm := fm) (n := nn) (by omega) sd ly tr kd ku kv kw
  refine j_aload_n hX 0 dX11_secret_0 rfl ?_
  refine j_iload_n hX 1 dX11_secret_1 rfl ?_
  refine j_iload_n hX 2 dX11_secret_2 rfl ?_
  refine j_iload_n hX 3 dX11_secret_3 rfl ?_
  refine j_iload hX 4 dX11_secret_4 rfl ?_
  refine j_callV hX 4 (c_begin l g h b v f sd fm nn ly tr kd ku kv kw hv15 hv16 hv27 hv28 (by omega) (by omega) hB) gX11_secret_X11_begin (by decide +kernel) rfl ⟨rfl, rfl⟩ ⟨Nat.le_of_ble_eq_true rfl, Nat.le_of_ble_eq_true rfl⟩ 11 0 rfl rfl [0, 1, 11] rfl (by decide) (fun _ => rfl) rfl [] rfl (Nat.le_of_ble_eq_true rfl) ⟨Nat.le_refl _, Nat.le_refl _⟩ dX11_secret_6 ?_
  intro F1 hF1
  try dsimp only at hF1
  refine j_w [oB h 11 (mO b (upd v 3 (nI (hl fm nn)))), bA g (b 2) 1400 F1, bA g (b 4) 32 dg, iA g (b 5) 64 w0, iA g (b 6) 8 S0, iA g (b 7) 8 fs, iA g (b 8) 64 rt, lA g (b 9) 25 A0, lA g (b 10) 25 T0, lA g (b 11) 5 U0, iA g (b 12) 25 tn, bA g (b 23) 48 sd, bA g ta tc tf] rfl ?_
  refine j_st [] rfl ?_
  refine j_aload_n hX 0 dX11_secret_9 rfl ?_
  refine j_pc 10 rfl ?_
  refine j_iconst hX (0) dX11_secret_10 (by decide) ?_
  refine j_callV hX 1 (c_laySeed l g h b (upd v 3 (nI (hl fm nn))) (hl fm nn) F1 sd nn 0 rfl hv16 (by omega) (by omega) (by omega) hB) gX11_secret_X11_laySeed (by decide +kernel) rfl ⟨rfl, rfl⟩ ⟨Nat.le_of_ble_eq_true rfl, Nat.le_of_ble_eq_true rfl⟩ 11 0 rfl rfl [0, 1, 11] rfl (by decide) (fun _ => rfl) rfl [] rfl (Nat.le_of_ble_eq_true rfl) ⟨Nat.le_refl _, Nat.le_refl _⟩ dX11_secret_11 ?_
  intro F2 hF2
  try dsimp only at hF2
  refine j_w [oB h 11 (mO b (upd v 3 (nI ((hl fm nn) + nn)))), bA g (b 2) 1400 F2, bA g (b 4) 32 dg, iA g (b 5) 64 w0, iA g (b 6) 8 S0, iA g (b 7) 8 fs, iA g (b 8) 64 rt, lA g (b 9) 25 A0, lA g (b 10) 25 T0, lA g (b 11) 5 U0, iA g (b 12) 25 tn, bA g (b 23) 48 sd, bA g ta tc tf] rfl ?_
  refine j_st [] rfl ?_
  refine j_aload_n hX 0 dX11_secret_14 rfl ?_
  refine j_aload hX 5 dX11_secret_15 rfl ?_
  refine j_iload hX 6 dX11_secret_17 rfl ?_
  refine j_callV hX 2 (c_end l g h b (upd v 3 (nI ((hl fm nn) + nn))) ((hl fm nn) + nn) F2 dg w0 S0 fs rt A0 T0 U0 tn ta tc tf fm nn t rfl hv15 hv16 (by omega) hfs hrt htn (by omega) (by omega) (by omega) (by omega)) gX11_secret_X11_end (by decide +kernel) rfl ⟨rfl, rfl⟩ ⟨Nat.le_of_ble_eq_true rfl, Nat.le_of_ble_eq_true rfl⟩ 11 0 rfl rfl [0, 1, 2, 3, 4, 5, 6, 7, 8, 9, 10, 12] rfl (by decide) (fun _ => rfl) rfl [] rfl (Nat.le_of_ble_eq_true rfl) ⟨Nat.le_refl _, Nat.le_refl _⟩ dX11_secret_19 ?_
  rintro ⟨w5, S5, A5, T5, U5, nl5, G5, FO5, TO5⟩ hE
  try dsimp only at hE
  refine j_w [oB h 11 (mO b (upd v 3 (nI nl5))), bA g (b 2) 1400 G5, bA g (b 4) 32 FO5, iA g (b 5) 64 w5, iA g (b 6) 8 S5, iA g (b 7) 8 fs, iA g (b 8) 64 rt, lA g (b 9) 25 A5, lA g (b 10) 25 T5, lA g (b 11) 5 U5, iA g (b 12) 25 tn, bA g (b 23) 48 sd, bA g ta tc TO5] rfl ?_
  refine j_st [] rfl ?_
  rw [hF2, hF1, putL_app' (by rw [hdl, Nat.zero_add]), slice_put (by rw [List.length_append, hdl, slice_length])] at hE
  exact hret (w5, S5, A5, T5, U5, nl5, G5, FO5, TO5) hE 22 _ .return_ dX11_secret_22 rfl

set_option maxHeartbeats 1000000 in
set_option maxRecDepth 100000 in
/-- the reference: chain -/
theorem c_chain (l : Launch) (g : jG) (h : Nat) (b : Nat → Nat) (v : Nat → Int32) (f : Nat → Int32) (dg : Nat → Int32) (w0 : Nat → Int32) (S0 : Nat → Int32) (fs : Nat → Int32) (rt : Nat → Int32) (A0 : Nat → Int64) (T0 : Nat → Int64) (U0 : Nat → Int64) (tn : Nat → Int32) (sd : Nat → Int32) (fm : Nat) (nn : Nat) (ly : Nat) (tr : Nat) (ta : Nat) (tc : Nat) (tf : Nat → Int32) (t : Nat) (fr : Nat) (sp : Nat) (ku : Nat) (kv : Nat) (n0 : Nat) (hv15 : v 15 = nI fm) (hv16 : v 16 = nI nn) (hv27 : v 27 = nI ly) (hv28 : v 28 = nI tr) (hfm : fm < 2) (hnn : nn ≤ 16) (hB : isB sd) (hfs : ∀ j, j < 8 → fs j = s_first.getD j 0) (hrt : ∀ j, j < 64 → rt j = s_cube.getD j 0) (htn : ∀ k, k < 25 → tn k = s_turns.getD k 0) (htc : t + nn ≤ tc) (htb : tc < 2 ^ 31) (hv3 : v 3 = nI n0) (hn0 : n0 ≤ 1400) (hTB : isB tf) (hsp : fr + sp < 2 ^ 31) : jC l g yX11_chain wsX11_chain ({ frames := 5, cells := 0, slots := 0, locals := 120 } : Room) [.ref h, .ref ta, .int (nI t), .int (nI fr), .int (nI sp), .int (nI ku), .int (nI kv)] [oB h 11 (mO b v), bA g (b 2) 1400 f, bA g (b 4) 32 dg, iA g (b 5) 64 w0, iA g (b 6) 8 S0, iA g (b 7) 8 fs, iA g (b 8) 64 rt, lA g (b 9) 25 A0, lA g (b 10) 25 T0, lA g (b 11) 5 U0, iA g (b 12) 25 tn, bA g (b 23) 48 sd, bA g ta tc tf] (fun u : (Nat → Int32) × (Nat → Int32) × (Nat → Int64) × (Nat → Int64) × (Nat → Int64) × Nat × (Nat → Int32) × (Nat → Int32) × (Nat → Int32) => none) (fun u : (Nat → Int32) × (Nat → Int32) × (Nat → Int64) × (Nat → Int64) × (Nat → Int64) × Nat × (Nat → Int32) × (Nat → Int32) × (Nat → Int32) => u.2.2.2.2.2.1 ≤ 1400 ∧ isB u.2.2.2.2.2.2.2.2 ∧ u.2.2.2.2.2.2.2.2 = putL tf t (chT fm nn sd ly tr ku kv (slice tf t nn) fr sp)) (fun u : (Nat → Int32) × (Nat → Int32) × (Nat → Int64) × (Nat → Int64) × (Nat → Int64) × Nat × (Nat → Int32) × (Nat → Int32) × (Nat → Int32) => [oB h 11 (mO b (upd v 3 (nI u.2.2.2.2.2.1))), bA g (b 2) 1400 u.2.2.2.2.2.2.1, bA g (b 4) 32 u.2.2.2.2.2.2.2.1, iA g (b 5) 64 u.1, iA g (b 6) 8 u.2.1, iA g (b 7) 8 fs, iA g (b 8) 64 rt, lA g (b 9) 25 u.2.2.1, lA g (b 10) 25 u.2.2.2.1, lA g (b 11) 5 u.2.2.2.2.1, iA g (b 12) 25 tn, bA g (b 23) 48 sd, bA g ta tc u.2.2.2.2.2.2.2.2]) := by
  refine jC.of (cc := cX11_chain) (own := RX11) (maxL := 8) (ret := none) (by decide +kernel) rfl rfl (Nat.le_of_ble_eq_true rfl) (fun u hu => rfl) ?_
  intro p e s m below meth c A Q hX hret
  have in11 : ∀ w ∈ wsX110, w ∈ wsX11_chain := (fun w h => List.mem_cons_of_mem _ (List.mem_append_right _ h))
  have hh := hl_le (fm := fm) hnn
  refine j_w [oB h 11 (mO b (upd v 3 (nI n0))), bA g (b 2) 1400 f, bA g (b 4) 32 dg, iA g (b 5) 64 w0, iA g (b 6) 8 S0, iA g (b 7) 8 fs, iA g (b 8) 64 rt, lA g (b 9) 25 A0, lA g (b 10) 25 T0, lA g (b 11) 5 U0, iA g (b 12) 25 tn, bA g (b 23) 48 sd, bA g ta tc tf] (by rw [updS (hv3 : (v : Nat → Int32) 3 = nI n0)]) ?_
  refine j_iconst hX (0) dX11_chain_0 (by decide) ?_
  refine j_st [.int (nI 0)] rfl ?_
  refine j_istore hX [(7, .int (nI 0)), (0, .ref h), (1, .ref ta), (2, .int (nI t)), (3, .int (nI fr)), (4, .int (nI sp)), (5, .int (nI ku)), (6, .int (nI kv))] dX11_chain_1 (by decide) rfl ?_
  have lp_1 : ∀ (n_2 : Nat) (k : Nat) (w1 : Nat → Int32) (S1 : Nat → Int32) (A1 : Nat → Int64) (T1 : Nat → Int64) (U1 : Nat → Int64) (nl : Nat) (G : Nat → Int32) (FO : Nat → Int32) (TO : Nat → Int32), (sp - k < n_2) → (k ≤ sp) → (nl ≤ 1400) → (isB TO) → (TO = putL tf t (chT fm nn sd ly tr ku kv (slice tf t nn) fr k)) → J p l e ({ frames := 5, cells := 0, slots := 0, locals := 120 } : Room) s m ([.ref h, .ref ta, .int (nI t), .int (nI fr), .int (nI sp), .int (nI ku), .int (nI kv)] : List Value).toArray below meth c g A 8 Q 0 0 [oB h 11 (mO b (upd v 3 (nI nl))), bA g (b 2) 1400 G, bA g (b 4) 32 FO, iA g (b 5) 64 w1, iA g (b 6) 8 S1, iA g (b 7) 8 fs, iA g (b 8) 64 rt, lA g (b 9) 25 A1, lA g (b 10) 25 T1, lA g (b 11) 5 U1, iA g (b 12) 25 tn, bA g (b 23) 48 sd, bA g ta tc TO] [(0, .ref h), (1, .ref ta), (2, .int (nI t)), (3, .int (nI fr)), (4, .int (nI sp)), (5, .int (nI ku)), (6, .int (nI kv)), (7, .int (nI k))] 3 [] := by
    intro n_2
    induction n_2 with
    | zero => intro k w1 S1 A1 T1 U1 nl G FO TO hm; exact absurd hm (Nat.not_lt_zero _)
    | succ n_2 ih_3 =>
      intro k w1 S1 A1 T1 U1 nl G FO TO hm hk hnl hTO hO
      refine j_iload hX 7 dX11_chain_3 rfl ?_
      refine j_iload hX 4 dX11_chain_5 rfl ?_
      refine j_icmp_geN hX k sp 45 dX11_chain_7 (by decide) (by omega) (by omega) (fun b_7 => ?_) (fun b_7 => ?_)
      · skip
        exact hret (w1, S1, A1, T1, U1, nl, G, FO, TO) (by dsimp only; exact ⟨hnl, hTO, by rw [hO, show k = sp by omega]⟩) 45 _ .return_ dX11_chain_45 rfl
      · skip
        refine j_aload_n hX 0 dX11_chain_10 rfl ?_
        refine j_pc 11 rfl ?_
        refine j_iconst hX (0) dX11_chain_11 (by decide) ?_
        refine j_iload hX 5 dX11_chain_12 rfl ?_
        refine j_iload hX 6 dX11_chain_14 rfl ?_
        refine j_iload_n hX 3 dX11_chain_16 rfl ?_
        refine j_iload hX 7 dX11_chain_17 rfl ?_
        refine j_iaddN hX fr k dX11_chain_19 ?_
        refine j_callV hX 4 (c_begin l g h b (upd v 3 (nI nl)) G sd fm nn ly tr 0 ku kv (fr + k) hv15 hv16 hv27 hv28 (by omega) (by omega) hB) gX11_chain_X11_begin (by decide +kernel) rfl ⟨rfl, rfl⟩ ⟨Nat.le_of_ble_eq_true rfl, Nat.le_of_ble_eq_true rfl⟩ 11 0 rfl rfl [0, 1, 11] rfl (by decide) (fun _ => rfl) rfl [] rfl (Nat.le_of_ble_eq_true rfl) ⟨Nat.le_refl _, Nat.le_refl _⟩ dX11_chain_20 ?_
        intro F1 hF1
        try dsimp only at hF1
        refine j_w [oB h 11 (mO b (upd v 3 (nI (hl fm nn)))), bA g (b 2) 1400 F1, bA g (b 4) 32 FO, iA g (b 5) 64 w1, iA g (b 6) 8 S1, iA g (b 7) 8 fs, iA g (b 8) 64 rt, lA g (b 9) 25 A1, lA g (b 10) 25 T1, lA g (b 11) 5 U1, iA g (b 12) 25 tn, bA g (b 23) 48 sd, bA g ta tc TO] rfl ?_
        refine j_st [] rfl ?_
        refine j_aload_n hX 0 dX11_chain_23 rfl ?_
        refine j_pc 24 rfl ?_
        refine j_aload_n hX 1 dX11_chain_24 rfl ?_
        refine j_iload_n hX 2 dX11_chain_25 rfl ?_
        refine j_aload_n hX 0 dX11_chain_26 rfl ?_
        refine j_gete hX (nI nn) in11 11 0 16 rfl rfl (by decide) (List.mem_of_getElem? (i := 1) rfl) rfl rfl hv16 dX11_chain_27 ?_
        refine j_callV hX 3 (c_layRow l g h b (upd v 3 (nI (hl fm nn))) (hl fm nn) F1 ta tc TO t nn rfl (by omega) (by omega) (by omega) hTO) gX11_chain_X11_layRow (by decide +kernel) rfl ⟨rfl, rfl⟩ ⟨Nat.le_of_ble_eq_true rfl, Nat.le_of_ble_eq_true rfl⟩ 11 0 rfl rfl [0, 1, 12] rfl (by decide) (fun _ => rfl) rfl [] rfl (Nat.le_of_ble_eq_true rfl) ⟨Nat.le_refl _, Nat.le_refl _⟩ dX11_chain_30 ?_
        intro F2 hF2
        try dsimp only at hF2
        refine j_w [oB h 11 (mO b (upd v 3 (nI ((hl fm nn) + nn)))), bA g (b 2) 1400 F2, bA g (b 4) 32 FO, iA g (b 5) 64 w1, iA g (b 6) 8 S1, iA g (b 7) 8 fs, iA g (b 8) 64 rt, lA g (b 9) 25 A1, lA g (b 10) 25 T1, lA g (b 11) 5 U1, iA g (b 12) 25 tn, bA g (b 23) 48 sd, bA g ta tc TO] rfl ?_
        refine j_st [] rfl ?_
        refine j_aload_n hX 0 dX11_chain_33 rfl ?_
        refine j_aload_n hX 1 dX11_chain_34 rfl ?_
        refine j_iload_n hX 2 dX11_chain_35 rfl ?_
        refine j_pc 36 rfl ?_
        refine j_callV hX 2 (c_end l g h b (upd v 3 (nI ((hl fm nn) + nn))) ((hl fm nn) + nn) F2 FO w1 S1 fs rt A1 T1 U1 tn ta tc TO fm nn t rfl hv15 hv16 (by omega) hfs hrt htn (by omega) (by omega) (by omega) (by omega)) gX11_chain_X11_end (by decide +kernel) rfl ⟨rfl, rfl⟩ ⟨Nat.le_of_ble_eq_true rfl, Nat.le_of_ble_eq_true rfl⟩ 11 0 rfl rfl [0, 1, 2, 3, 4, 5, 6, 7, 8, 9, 10, 12] rfl (by decide) (fun _ => rfl) rfl [] rfl (Nat.le_of_ble_eq_true rfl) ⟨Nat.le_refl _, Nat.le_refl _⟩ dX11_chain_36 ?_
        rintro ⟨w5, S5, A5, T5, U5, nl5, G5, FO5, TO5⟩ hE
        try dsimp only at hE
        refine j_w [oB h 11 (mO b (upd v 3 (nI nl5))), bA g (b 2) 1400 G5, bA g (b 4) 32 FO5, iA g (b 5) 64 w5, iA g (b 6) 8 S5, iA g (b 7) 8 fs, iA g (b 8) 64 rt, lA g (b 9) 25 A5, lA g (b 10) 25 T5, lA g (b 11) 5 U5, iA g (b 12) 25 tn, bA g (b 23) 48 sd, bA g ta tc TO5] rfl ?_
        refine j_st [] rfl ?_
        have hdl := hd_length (fm := fm) (n := nn) (by omega) sd ly tr 0 ku kv (fr + k)
        rw [hF2, hF1, putL_app' (by rw [hdl, Nat.zero_add]), slice_put (by rw [List.length_append, hdl, slice_length])] at hE
        refine j_iincN hX k (k + 1) [(7, .int (nI (k + 1))), (0, .ref h), (1, .ref ta), (2, .int (nI t)), (3, .int (nI fr)), (4, .int (nI sp)), (5, .int (nI ku)), (6, .int (nI kv))] 7 dX11_chain_39 rfl (nI_1 _) (by decide) rfl ?_
        refine j_goto hX 3 dX11_chain_42 (by decide) ?_
        refine j_perm [(0, .ref h), (1, .ref ta), (2, .int (nI t)), (3, .int (nI fr)), (4, .int (nI sp)), (5, .int (nI ku)), (6, .int (nI kv)), (7, .int (nI (k + 1)))] [1, 2, 3, 4, 5, 6, 7, 0] rfl ?_
        exact ih_3 (k + 1) w5 S5 A5 T5 U5 nl5 G5 FO5 TO5 (by omega) (by omega) hE.1 (by rw [hE.2]; exact putL_B hTO (TT_B _ _ _ _ _ _ _ _ _ _)) (by rw [hE.2, hO, slice_put (by rw [chT_length (by omega) _ _ _ _ _ (slice_length _ _ _)]), putL_over (by rw [chT_length (by omega) _ _ _ _ _ (slice_length _ _ _), TT_length_of (by omega)])]; rfl)
  refine j_perm [(0, .ref h), (1, .ref ta), (2, .int (nI t)), (3, .int (nI fr)), (4, .int (nI sp)), (5, .int (nI ku)), (6, .int (nI kv)), (7, .int (nI 0))] [1, 2, 3, 4, 5, 6, 7, 0] rfl ?_
  exact lp_1 _ 0 w0 S0 A0 T0 U0 n0 f dg tf (Nat.lt_succ_self _) (by omega) (by omega) hTB (by rw [chT, put_slice])

